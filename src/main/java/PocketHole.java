/** A pocket with a hole: what falls through it when, and what to do about it. */
public final class PocketHole {
    // Findings: the answer is LOW less one of these.
    private static final int LOW = -1000001;
    private static final int BEYOND = 0;
    private static final int FULL = 1;
    private static final int KIND = 2;
    private static final int NONE = 3;
    private static final int STATE = 4;
    private static final int MISSING = 5;
    private static final int SIZE = 6;
    private static final int FINDINGS = 7;

    // Places of a coin.
    private static final int POCKET = 0;
    private static final int LINING = 1;
    private static final int GROUND = 2;
    private static final int LEFT = 3;
    private static final int PAID = 4;

    // Kinds of coins.
    private static final int COIN = 0;
    private static final int WRAPPED = 1;
    private static final int HEAVY = 2;
    private static final int KNOTTED = 3;
    private static final int KEY = 4;
    private static final int FLAT = 5;
    private static final int TICKET = 6;

    // What of() and change() tell a coin's numbers by.
    private static final int ITS_KIND = 0;
    private static final int ITS_SIZE = 1;
    private static final int ITS_WEIGHT = 2;
    private static final int ITS_PENCE = 3;
    private static final int ITS_PLACE = 4;
    private static final int ITS_NEAR = 5;
    private static final int ITS_CELL = 6;
    private static final int ITS_FALL = 7;
    private static final int ITS_THICKNESS = 8;
    private static final int ITS_PACE = 9;
    private static final int ITS_WEAR = 10;

    private static final int MOST_COINS = 10;
    private static final int MOST_SIZE = 40;
    private static final int MOST_WEIGHT = 50;
    private static final int MOST_PENCE = 240;
    private static final int MOST_NEAR = 9;
    private static final int AT_THE_HOLE = 3;
    private static final int LAST_CELL = 7;
    private static final int WIDEST = 99;
    private static final int LAST_STEP = 9999;
    private static final int FARTHEST = 100;
    private static final int FARTHEST_LACK = 60;
    private static final int FARTHEST_BEGIN = 30;
    private static final int MOST_SUM = 9999;
    private static final int MOST_LINED = 500;
    private static final int WAY_CELLS = 30;
    private static final int MOST_DAYS = 12;
    private static final int DAY_STEPS = 7;
    private static final int NOT_FALLEN = -1;
    private static final int NOTHING = -1;
    private static final int SPOTS = 10;
    private static final int SHEETS = 4;
    private static final int SHEET_ROOM = 40;
    private static final int TAPE_ROOM = 120;
    // Sums of pence are marked a bit each: 10 coins of 240 pence make 2400 at most.
    private static final int SUM_WORDS = 38;

    private final Coat coat = new Coat();
    // Every look ahead works on this one, so that no call makes objects.
    private final Coat trial = new Coat();
    private final Coat kept = new Coat();
    private boolean isKept = false;
    private final Tape tape = new Tape();
    private final Sheet[] sheets = new Sheet[SHEETS];
    private final int[] findingsTold = new int[FINDINGS];
    private final long[] sumMarks = new long[SUM_WORDS];
    private final int[] wayPence = new int[WAY_CELLS];

    public PocketHole() {
        for (int s = 0; s < SHEETS; s++) {
            sheets[s] = new Sheet();
        }
    }

    // ---- the coat

    public int coin(int kind) {
        if (!isWithin(kind, COIN, TICKET)) {
            return finding(BEYOND);
        }
        if (coat.coins >= MOST_COINS) {
            return finding(FULL);
        }
        coat.newCoin(kind);
        return coat.coins - 1;
    }

    public int of(int coin, int what) {
        if (!coat.has(coin) || !isWithin(what, ITS_KIND, ITS_WEAR)) {
            return finding(BEYOND);
        }
        return coat.row[coin].told(what, coat.hole);
    }

    public int change(int coin, int what, int v) {
        if (!coat.has(coin) || !mayBecome(what, v)) {
            return finding(BEYOND);
        }
        Coin changed = coat.row[coin];
        int was = changed.told(what, coat.hole);
        changed.set(what, v);
        return was;
    }

    public int put(int coin, int place) {
        if (!coat.has(coin) || !isPlace(place)) {
            return finding(BEYOND);
        }
        int was = coat.row[coin].place;
        coat.row[coin].moveTo(place);
        return was;
    }

    public int rule(int what, int v) {
        if (!isWithin(what, 0, 2) || !isWithin(v, 0, what == 2 ? LAST_CELL : WIDEST)) {
            return finding(BEYOND);
        }
        int was;
        if (what == 0) {
            was = coat.hole;
            coat.hole = v;
        } else if (what == 1) {
            was = coat.gap;
            coat.gap = v;
        } else {
            was = coat.at;
            coat.at = v;
        }
        return was;
    }

    public int sew() {
        int was = coat.hole;
        coat.hole = 0;
        return was;
    }

    public int lie(int place) {
        return isPlace(place) ? coat.in(place) : finding(BEYOND);
    }

    public int pence(int place) {
        return isPlace(place) ? coat.penceIn(place) : finding(BEYOND);
    }

    // ---- steps

    public int steps(int n) {
        if (!isWithin(n, 1, FARTHEST)) {
            return finding(BEYOND);
        }
        if (isTooFar(n)) {
            return finding(STATE);
        }
        int before = coat.in(GROUND);
        coat.go(n);
        return Integer.bitCount(coat.in(GROUND) & ~before);
    }

    public int now(int what) {
        switch (what) {
            case 0:
                return coat.step;
            case 1:
                return coat.hole;
            case 2:
                return coat.gap;
            case 3:
                return coat.at;
            case 4:
                return coat.clinkingPairs();
            case 5:
                return coat.weightOf(coat.in(POCKET) | coat.in(LINING));
            case 6:
                return coat.weightOf(coat.in(LEFT));
            default:
                return finding(BEYOND);
        }
    }

    public int ahead(int n, int what) {
        if (!isWithin(n, 0, FARTHEST) || !isWithin(what, 0, 5)) {
            return finding(BEYOND);
        }
        if (isTooFar(n)) {
            return finding(STATE);
        }
        trial.become(coat);
        trial.go(n);
        switch (what) {
            case 0:
                return goneInTrial();
            case 1:
                return lostInTrial();
            case 2:
                return trial.hole;
            case 3:
                return trial.clinkingPairs();
            case 4:
                return trial.penceIn(GROUND);
            default:
                return trial.in(LINING);
        }
    }

    public int when(int coin) {
        if (!coat.has(coin)) {
            return finding(BEYOND);
        }
        if (isTooFar(FARTHEST)) {
            return finding(STATE);
        }
        trial.become(coat);
        int stay = stayInTrial(coin);
        return stay > FARTHEST ? finding(NONE) : stay;
    }

    public int falls(int coin) {
        if (!coat.has(coin)) {
            return finding(BEYOND);
        }
        if (isTooFar(FARTHEST)) {
            return finding(STATE);
        }
        trial.become(coat);
        for (int n = 0; n <= FARTHEST; n++) {
            if (trial.row[coin].place == GROUND) {
                return n;
            }
            trial.go(1);
        }
        return finding(NONE);
    }

    public int first() {
        if (isTooFar(FARTHEST)) {
            return finding(STATE);
        }
        trial.become(coat);
        boolean stirs = true;
        for (int n = 0; n < FARTHEST && stirs; n++) {
            stirs = trial.goPocket();
            int gone = goneInTrial();
            if (gone != 0) {
                return leastOf(gone);
            }
        }
        return finding(NONE);
    }

    public int cell(int coin, int n) {
        if (!coat.has(coin) || !isWithin(n, 0, FARTHEST)) {
            return finding(BEYOND);
        }
        if (isTooFar(n)) {
            return finding(STATE);
        }
        trial.become(coat);
        trial.go(n);
        Coin seen = trial.row[coin];
        return seen.place == LINING ? seen.cell : finding(NONE);
    }

    // ---- what to do (nothing changes)

    public int bears(int coin, int n) {
        if (!coat.has(coin) || !isWithin(n, 1, FARTHEST)) {
            return finding(BEYOND);
        }
        if (coat.row[coin].place != POCKET || isTooFar(n)) {
            return finding(STATE);
        }
        for (int hole = WIDEST; hole >= 0; hole--) {
            if ((goneWithHole(hole, n) >> coin & 1) == 0) {
                return hole;
            }
        }
        return finding(NONE);
    }

    public int latest(int n, int p) {
        if (!isWithin(n, 1, FARTHEST) || !isWithin(p, 0, MOST_SUM)) {
            return finding(BEYOND);
        }
        if (isTooFar(n)) {
            return finding(STATE);
        }
        for (int k = n; k >= 0; k--) {
            trial.become(coat);
            trial.go(k);
            trial.hole = 0;
            if (lostBehind(n - k) <= p) {
                return k;
            }
        }
        return finding(NONE);
    }

    public int carry(int n) {
        if (!isWithin(n, 1, FARTHEST)) {
            return finding(BEYOND);
        }
        return isTooFar(n) ? finding(STATE) : richestStaying(n);
    }

    public int carried(int n) {
        if (!isWithin(n, 1, FARTHEST)) {
            return finding(BEYOND);
        }
        return isTooFar(n) ? finding(STATE) : coat.penceOf(richestStaying(n));
    }

    public int kindFor(int coin) {
        if (!coat.has(coin)) {
            return finding(BEYOND);
        }
        if (coat.row[coin].place != POCKET || isTooFar(FARTHEST)) {
            return finding(STATE);
        }
        int best = COIN;
        int longest = -1;
        for (int kind = COIN; kind <= TICKET; kind++) {
            trial.become(coat);
            trial.row[coin].kind = kind;
            int stay = stayInTrial(coin);
            if (stay > longest) {
                longest = stay;
                best = kind;
            }
        }
        return best;
    }

    public int worst(int n) {
        if (!isWithin(n, 1, FARTHEST)) {
            return finding(BEYOND);
        }
        if (isTooFar(n)) {
            return finding(STATE);
        }
        int worst = NOTHING;
        int fewest = 0;
        for (int c = 0; c < coat.coins; c++) {
            if (coat.row[c].place == POCKET) {
                trial.become(coat);
                trial.row[c].moveTo(LEFT);
                int lost = lostBehind(n);
                if (worst == NOTHING || lost < fewest) {
                    worst = c;
                    fewest = lost;
                }
            }
        }
        return worst == NOTHING ? finding(NONE) : worst;
    }

    public int hem(int n) {
        if (!isWithin(n, 1, FARTHEST)) {
            return finding(BEYOND);
        }
        if (isTooFar(n)) {
            return finding(STATE);
        }
        int best = NOTHING;
        int fewest = 0;
        for (int at = 0; at <= LAST_CELL; at++) {
            trial.become(coat);
            trial.at = at;
            int lost = lostBehind(n);
            if (best == NOTHING || lost < fewest) {
                best = at;
                fewest = lost;
            }
        }
        return best;
    }

    // ---- paying

    public int pay(int p) {
        if (!isWithin(p, 0, MOST_SUM)) {
            return finding(BEYOND);
        }
        int pocket = coat.in(POCKET);
        int best = NOTHING;
        int fewest = 0;
        for (int set = 0; set < coat.sets(); set++) {
            if ((set & ~pocket) == 0 && coat.penceOf(set) == p) {
                int many = Integer.bitCount(set);
                if (best == NOTHING || many < fewest) {
                    best = set;
                    fewest = many;
                }
            }
        }
        return best == NOTHING ? finding(NONE) : best;
    }

    public int small(int p) {
        if (!isWithin(p, 0, MOST_SUM)) {
            return finding(BEYOND);
        }
        int pocket = coat.in(POCKET);
        int thin = coat.thinOnes();
        int best = NOTHING;
        int most = 0;
        for (int set = 0; set < coat.sets(); set++) {
            if ((set & ~pocket) == 0 && coat.penceOf(set) == p) {
                int many = Integer.bitCount(set & thin);
                if (best == NOTHING || many > most) {
                    best = set;
                    most = many;
                }
            }
        }
        return best == NOTHING ? finding(NONE) : best;
    }

    public int paid(int set) {
        if (!coat.isSet(set)) {
            return finding(BEYOND);
        }
        if ((set & ~coat.in(POCKET)) != 0) {
            return finding(STATE);
        }
        for (int c = 0; c < coat.coins; c++) {
            if ((set >> c & 1) == 1) {
                coat.row[c].moveTo(PAID);
            }
        }
        return coat.penceOf(set);
    }

    public int sums() {
        for (int w = 0; w < SUM_WORDS; w++) {
            sumMarks[w] = 0;
        }
        sumMarks[0] = 1;
        for (int c = 0; c < coat.coins; c++) {
            if (coat.row[c].place == POCKET) {
                markSumsWith(coat.row[c].pence);
            }
        }
        int many = 0;
        for (int w = 0; w < SUM_WORDS; w++) {
            many += Long.bitCount(sumMarks[w]);
        }
        return many;
    }

    // ---- what is lacking

    public int fits(int set, int n) {
        if (!coat.isSet(set) || !isWithin(n, 1, FARTHEST_LACK)) {
            return finding(BEYOND);
        }
        if (isTooFar(n)) {
            return finding(STATE);
        }
        int many = 0;
        for (int hole = 0; hole <= WIDEST; hole++) {
            if (goneWithHole(hole, n) == set) {
                many++;
            }
        }
        return many;
    }

    public int size(int set, int n) {
        if (!coat.isSet(set) || !isWithin(n, 1, FARTHEST_LACK)) {
            return finding(BEYOND);
        }
        if (isTooFar(n)) {
            return finding(STATE);
        }
        for (int hole = 0; hole <= WIDEST; hole++) {
            if (goneWithHole(hole, n) == set) {
                return hole;
            }
        }
        return finding(NONE);
    }

    public int began(int set) {
        if (!coat.isSet(set)) {
            return finding(BEYOND);
        }
        if (isTooFar(FARTHEST_BEGIN)) {
            return finding(STATE);
        }
        int fitting = 0;
        trial.become(coat);
        for (int n = 1; n <= FARTHEST_BEGIN; n++) {
            trial.goPocket();
            if (goneInTrial() == set) {
                fitting |= 1 << n;
            }
        }
        return fitting;
    }

    public int boy(int set, int n) {
        if (!coat.isSet(set) || !isWithin(n, 1, FARTHEST_LACK)) {
            return finding(BEYOND);
        }
        if (isTooFar(n)) {
            return finding(STATE);
        }
        int answer = 0;
        for (int hole = 0; hole <= WIDEST; hole++) {
            int unlike = Integer.bitCount(goneWithHole(hole, n) ^ set);
            if (unlike == 0) {
                return 1;
            }
            if (unlike == 1) {
                answer = 2;
            }
        }
        return answer;
    }

    public int lining(int w) {
        if (!isWithin(w, 0, MOST_LINED)) {
            return finding(BEYOND);
        }
        int able = coat.in(POCKET) | coat.in(LINING) | coat.in(LEFT);
        int many = 0;
        for (int set = 0; set < coat.sets(); set++) {
            if ((set & ~able) == 0 && coat.weightOf(set) == w) {
                many++;
            }
        }
        return many;
    }

    public int back(int coin, int m) {
        if (!coat.has(coin) || !isWithin(m, 1, FARTHEST)) {
            return finding(BEYOND);
        }
        return coat.hasFallen(coin) ? coat.wayCell(coin, m) : finding(STATE);
    }

    public int richest(int m) {
        if (!isWithin(m, 1, FARTHEST)) {
            return finding(BEYOND);
        }
        for (int w = 0; w < WAY_CELLS; w++) {
            wayPence[w] = NOTHING;
        }
        for (int c = 0; c < coat.coins; c++) {
            int w = coat.hasFallen(c) ? coat.wayCell(c, m) : WAY_CELLS;
            if (isWithin(w, 0, WAY_CELLS - 1)) {
                wayPence[w] = Math.max(wayPence[w], 0) + coat.row[c].pence;
            }
        }
        int best = 0;
        for (int w = 1; w < WAY_CELLS; w++) {
            if (wayPence[w] > wayPence[best]) {
                best = w;
            }
        }
        return wayPence[best] == NOTHING ? finding(NONE) : best;
    }

    // ---- draws

    public int days(int n) {
        if (!isWithin(n, 1, MOST_DAYS)) {
            return finding(BEYOND);
        }
        if (isTooFar(DAY_STEPS * n) || coat.coins == 0) {
            return finding(STATE);
        }
        for (int day = 0; day < n; day++) {
            Coin drawn = coat.row[coat.draw() % coat.coins];
            int place = coat.draw() % 2 == 0 ? POCKET : LEFT;
            if (drawn.place == POCKET || drawn.place == LEFT) {
                drawn.moveTo(place);
            }
            coat.go(coat.draw() % (DAY_STEPS + 1));
        }
        return coat.penceIn(GROUND);
    }

    public int seed(int v) {
        int was = coat.z;
        coat.z = v;
        return was;
    }

    // ---- texts

    public int feed(int bytes, int n) {
        if (!isWithin(n, 1, 4)) {
            return finding(BEYOND);
        }
        if (tape.length + n > TAPE_ROOM) {
            return finding(FULL);
        }
        for (int i = n - 1; i >= 0; i--) {
            tape.add(bytes >>> (8 * i) & 255);
        }
        return tape.length;
    }

    public int wipe() {
        int had = tape.length;
        tape.length = 0;
        return had;
    }

    public int text() {
        // What is told comes to the trial first, as a fault later on must leave the coat as it was.
        trial.become(coat);
        int answer = tape.readInto(trial);
        tape.length = 0;
        if (answer >= 0) {
            coat.become(trial);
        }
        return answer;
    }

    // ---- spots, sheets

    public int hold(int spot, int coin) {
        if (!isWithin(spot, 0, SPOTS - 1) || coin != NOTHING && !coat.has(coin)) {
            return finding(BEYOND);
        }
        coat.spots[spot] = coin;
        return 1;
    }

    public int as(int spot, int kind) {
        if (!isWithin(spot, 0, SPOTS - 1) || !isWithin(kind, COIN, TICKET)) {
            return finding(BEYOND);
        }
        int held = coat.spots[spot];
        if (!coat.has(held)) {
            return finding(MISSING);
        }
        return coat.row[held].is(kind) ? held : finding(KIND);
    }

    public int sheet(int s, int bits, int n) {
        if (!isSheet(s) || bits != 0 && bits != 8 && bits != 16 && bits != 32) {
            return finding(BEYOND);
        }
        if (n < 0) {
            return finding(SIZE);
        }
        if (n > SHEET_ROOM) {
            return finding(BEYOND);
        }
        sheets[s].renew(bits, n);
        return sheets[s].length;
    }

    public int write(int s, int i, int v) {
        if (!isSheet(s)) {
            return finding(BEYOND);
        }
        if (sheets[s].isMissing()) {
            return finding(MISSING);
        }
        if (!isWithin(i, 0, sheets[s].length - 1)) {
            return finding(BEYOND);
        }
        sheets[s].set(i, v);
        return 1;
    }

    public int copy(int s, int from, int t, int to, int n) {
        if (!isSheet(s) || !isSheet(t)) {
            return finding(BEYOND);
        }
        Sheet source = sheets[s];
        Sheet target = sheets[t];
        if (source.isMissing() || target.isMissing()) {
            return finding(MISSING);
        }
        if (source.bits != target.bits) {
            return finding(KIND);
        }
        if (!source.hasRange(from, n) || !target.hasRange(to, n)) {
            return finding(BEYOND);
        }
        System.arraycopy(source.numbers, from, target.numbers, to, n);
        return n;
    }

    public int load(int s) {
        if (!isSheet(s)) {
            return finding(BEYOND);
        }
        Sheet sheet = sheets[s];
        if (sheet.isMissing()) {
            return finding(MISSING);
        }
        int came = 0;
        while (came < sheet.length && coat.has(came) && mayBecome(ITS_SIZE, sheet.numbers[came])) {
            coat.row[came].size = sheet.numbers[came];
            came++;
        }
        return came;
    }

    public int judge(int s, int coin) {
        if (!isSheet(s)) {
            return finding(BEYOND);
        }
        Sheet sheet = sheets[s];
        if (sheet.isMissing()) {
            return finding(MISSING);
        }
        if (!coat.has(coin)) {
            return finding(BEYOND);
        }
        if (isTooFar(sheet.length)) {
            return finding(STATE);
        }
        trial.become(coat);
        for (int i = 0; i < sheet.length; i++) {
            trial.go(1);
            if (trial.row[coin].place != sheet.numbers[i]) {
                return 1 + i;
            }
        }
        return 0;
    }

    // ---- images

    public int image() {
        kept.become(coat);
        isKept = true;
        return 1;
    }

    public int undo() {
        if (!isKept) {
            return finding(NONE);
        }
        coat.become(kept);
        return coat.step;
    }

    public int tear() {
        int had = isKept ? 1 : 0;
        isKept = false;
        return had;
    }

    public int count(int what) {
        switch (what) {
            case 0:
                return coat.step;
            case 1:
                return coat.coins;
            case 2:
                return coat.hole;
            case 3:
                return coat.penceOf(coat.sets() - 1);
            case 4:
                return coat.clinkingPairs();
            case 5:
                return tape.length;
            case 6:
                return coat.z;
            case 7:
                return coat.spotsInUse();
            default:
                return finding(BEYOND);
        }
    }

    public int status(int which) {
        if (!isWithin(which, -1, FINDINGS - 1)) {
            return finding(BEYOND);
        }
        if (which >= 0) {
            return findingsTold[which];
        }
        int all = 0;
        for (int f = 0; f < FINDINGS; f++) {
            all += findingsTold[f];
        }
        return all;
    }

    // ---- of all sections

    private int finding(int which) {
        findingsTold[which]++;
        return LOW - which;
    }

    private static boolean isWithin(int v, int least, int most) {
        return v >= least && v <= most;
    }

    private static boolean isPlace(int place) {
        return isWithin(place, POCKET, PAID);
    }

    private static boolean isSheet(int s) {
        return isWithin(s, 0, SHEETS - 1);
    }

    private static boolean mayBecome(int what, int v) {
        switch (what) {
            case ITS_KIND:
                return isWithin(v, COIN, TICKET);
            case ITS_SIZE:
                return isWithin(v, 1, MOST_SIZE);
            case ITS_WEIGHT:
                return isWithin(v, 1, MOST_WEIGHT);
            case ITS_PENCE:
                return isWithin(v, 0, MOST_PENCE);
            case ITS_NEAR:
                return isWithin(v, 0, MOST_NEAR);
            case ITS_CELL:
                return isWithin(v, 0, LAST_CELL);
            default:
                return false;
        }
    }

    /** The least coin of a set that has one. */
    private static int leastOf(int set) {
        int coin = 0;
        while (coin < MOST_COINS - 1 && (set >> coin & 1) == 0) {
            coin++;
        }
        return coin;
    }

    private boolean isTooFar(int n) {
        return coat.step + n > LAST_STEP;
    }

    private int goneInTrial() {
        return coat.in(POCKET) & ~trial.in(POCKET);
    }

    private int lostInTrial() {
        return trial.in(GROUND) & ~coat.in(GROUND);
    }

    /** Behind how many steps a coin isn't in the trial's pocket first; FARTHEST + 1 if it stays. */
    private int stayInTrial(int coin) {
        boolean stirs = true;
        for (int n = 0; n <= FARTHEST && stirs; n++) {
            if (trial.row[coin].place != POCKET) {
                return n;
            }
            stirs = trial.goPocket();
        }
        return FARTHEST + 1;
    }

    private int goneWithHole(int hole, int n) {
        trial.become(coat);
        trial.hole = hole;
        boolean stirs = true;
        for (int i = 0; i < n && stirs; i++) {
            stirs = trial.goPocket();
        }
        return goneInTrial();
    }

    /** Pence lost when the trial, as it was made ready, goes on n steps. */
    private int lostBehind(int n) {
        trial.go(n);
        return trial.penceOf(lostInTrial());
    }

    private int richestStaying(int n) {
        int able = coat.in(POCKET) | coat.in(LEFT);
        // The empty set stays always, so it stands until one with more pence does.
        int best = 0;
        int most = 0;
        for (int set = 1; set < coat.sets(); set++) {
            if ((set & ~able) == 0) {
                int worth = coat.penceOf(set);
                if (worth > most && stays(set, able, n)) {
                    best = set;
                    most = worth;
                }
            }
        }
        return best;
    }

    private boolean stays(int set, int able, int n) {
        trial.become(coat);
        for (int c = 0; c < trial.coins; c++) {
            if ((able >> c & 1) == 1) {
                trial.row[c].moveTo((set >> c & 1) == 1 ? POCKET : LEFT);
            }
        }
        boolean stirs = true;
        for (int i = 0; i < n && stirs; i++) {
            stirs = trial.goPocket();
            if (trial.in(POCKET) != set) {
                return false;
            }
        }
        return true;
    }

    /** Marks every sum that is a marked one and so many pence more. */
    private void markSumsWith(int pence) {
        int words = pence >> 6;
        int bits = pence & 63;
        // From the top down, as a mark that was just set must not be moved again.
        for (int w = SUM_WORDS - 1; w >= words; w--) {
            long moved = sumMarks[w - words] << bits;
            if (bits > 0 && w > words) {
                moved |= sumMarks[w - words - 1] >>> (64 - bits);
            }
            sumMarks[w] |= moved;
        }
    }

    private static final class Coin {
        private int kind;
        private int size;
        private int weight;
        private int pence;
        private int place;
        private int near;
        private int cell;
        private int fall;

        void renew(int newKind) {
            kind = newKind;
            size = 8;
            weight = 5;
            pence = 6;
            moveTo(POCKET);
        }

        void become(Coin other) {
            kind = other.kind;
            size = other.size;
            weight = other.weight;
            pence = other.pence;
            place = other.place;
            near = other.near;
            cell = other.cell;
            fall = other.fall;
        }

        void moveTo(int newPlace) {
            place = newPlace;
            near = 0;
            cell = 0;
            fall = NOT_FALLEN;
        }

        boolean is(int asked) {
            return asked == COIN || asked == kind
                || asked == WRAPPED && kind == KNOTTED
                || asked == HEAVY && kind == KEY
                || asked == FLAT && kind == TICKET;
        }

        int thickness() {
            switch (kind) {
                case WRAPPED:
                    return 2 * size;
                case KNOTTED:
                    return 2 * size + 3;
                case FLAT:
                case TICKET:
                    return size > 1 ? size / 2 : 1;
                default:
                    return size;
            }
        }

        int pace() {
            switch (kind) {
                case HEAVY:
                case KEY:
                    return 2;
                case TICKET:
                    return 0;
                default:
                    return 1;
            }
        }

        int wear(int hole) {
            int plain = 2 * thickness() >= hole ? 1 : 0;
            switch (kind) {
                case WRAPPED:
                case KNOTTED:
                    return 0;
                case HEAVY:
                    return plain + 1;
                case KEY:
                    return plain + 2;
                default:
                    return plain;
            }
        }

        int told(int what, int hole) {
            switch (what) {
                case ITS_KIND:
                    return kind;
                case ITS_SIZE:
                    return size;
                case ITS_WEIGHT:
                    return weight;
                case ITS_PENCE:
                    return pence;
                case ITS_PLACE:
                    return place;
                case ITS_NEAR:
                    return near;
                case ITS_CELL:
                    return cell;
                case ITS_FALL:
                    return fall;
                case ITS_THICKNESS:
                    return thickness();
                case ITS_PACE:
                    return pace();
                default:
                    return wear(hole);
            }
        }

        void set(int what, int v) {
            switch (what) {
                case ITS_KIND:
                    kind = v;
                    break;
                case ITS_SIZE:
                    size = v;
                    break;
                case ITS_WEIGHT:
                    weight = v;
                    break;
                case ITS_PENCE:
                    pence = v;
                    break;
                case ITS_NEAR:
                    near = v;
                    break;
                case ITS_CELL:
                    cell = v;
                    break;
                default:
                    break;
            }
        }
    }

    /** All that an image keeps. */
    private static final class Coat {
        private int hole = 10;
        private int gap = 0;
        private int at = LAST_CELL;
        private int step = 0;
        private int z = 1;
        private int coins = 0;
        private final Coin[] row = new Coin[MOST_COINS];
        private final int[] spots = new int[SPOTS];

        Coat() {
            for (int c = 0; c < MOST_COINS; c++) {
                row[c] = new Coin();
            }
            for (int spot = 0; spot < SPOTS; spot++) {
                spots[spot] = NOTHING;
            }
        }

        void become(Coat other) {
            hole = other.hole;
            gap = other.gap;
            at = other.at;
            step = other.step;
            z = other.z;
            coins = other.coins;
            for (int c = 0; c < coins; c++) {
                row[c].become(other.row[c]);
            }
            System.arraycopy(other.spots, 0, spots, 0, SPOTS);
        }

        /** Only where there is room: fewer than MOST_COINS. */
        Coin newCoin(int kind) {
            Coin made = row[coins];
            made.renew(kind);
            coins++;
            return made;
        }

        boolean has(int coin) {
            return coin >= 0 && coin < coins;
        }

        int sets() {
            return 1 << coins;
        }

        boolean isSet(int set) {
            return set >= 0 && set < sets();
        }

        int in(int place) {
            int set = 0;
            for (int c = 0; c < coins; c++) {
                if (row[c].place == place) {
                    set |= 1 << c;
                }
            }
            return set;
        }

        int thinOnes() {
            int set = 0;
            for (int c = 0; c < coins; c++) {
                if (row[c].thickness() <= hole) {
                    set |= 1 << c;
                }
            }
            return set;
        }

        int penceOf(int set) {
            int sum = 0;
            for (int c = 0; c < coins; c++) {
                if ((set >> c & 1) == 1) {
                    sum += row[c].pence;
                }
            }
            return sum;
        }

        int penceIn(int place) {
            return penceOf(in(place));
        }

        int weightOf(int set) {
            int sum = 0;
            for (int c = 0; c < coins; c++) {
                if ((set >> c & 1) == 1) {
                    sum += row[c].weight;
                }
            }
            return sum;
        }

        boolean clink(int c, int d) {
            return row[c].place == LINING && row[d].place == LINING && row[c].cell == row[d].cell;
        }

        int clinkingPairs() {
            int pairs = 0;
            for (int c = 0; c < coins; c++) {
                for (int d = c + 1; d < coins; d++) {
                    if (clink(c, d)) {
                        pairs++;
                    }
                }
            }
            return pairs;
        }

        boolean clinksNow(int c) {
            for (int d = 0; d < coins; d++) {
                if (d != c && clink(c, d)) {
                    return true;
                }
            }
            return false;
        }

        boolean hasFallen(int c) {
            return row[c].fall != NOT_FALLEN;
        }

        int wayCell(int c, int m) {
            return (step - 1 - row[c].fall) / m;
        }

        int spotsInUse() {
            int many = 0;
            for (int spot = 0; spot < SPOTS; spot++) {
                if (spots[spot] != NOTHING) {
                    many++;
                }
            }
            return many;
        }

        int draw() {
            z = z * 1103515245 + 12345;
            return z >>> 8;
        }

        void go(int n) {
            for (int i = 0; i < n; i++) {
                int stepAhead = step;
                int lined = in(LINING);
                goPocket();
                goLining(lined, stepAhead);
            }
        }

        /**
         * A step without its part in the lining, which can't change who is in the pocket. False if
         * it changed nothing and no later one will.
         */
        boolean goPocket() {
            boolean stirs = false;
            for (int c = 0; c < coins; c++) {
                if (row[c].place == POCKET && stirOne(row[c])) {
                    stirs = true;
                }
            }
            step++;
            return stirs;
        }

        private boolean stirOne(Coin coin) {
            int near = Math.min(coin.near + coin.pace(), MOST_NEAR);
            boolean stirs = near != coin.near;
            coin.near = near;
            if (near < AT_THE_HOLE) {
                return stirs;
            }
            if (coin.thickness() <= hole) {
                coin.place = LINING;
                coin.cell = 0;
                hole = Math.min(hole + coin.wear(hole), WIDEST);
                return true;
            }
            if (coin.kind == KEY) {
                if (step % 4 == 0) {
                    hole = Math.min(hole + 1, WIDEST);
                }
                // A key that rests in this step may widen the hole in a later one.
                return true;
            }
            return stirs;
        }

        private void goLining(int lined, int stepAhead) {
            for (int c = 0; c < coins; c++) {
                if ((lined >> c & 1) == 1) {
                    Coin coin = row[c];
                    if (coin.cell == at && coin.thickness() <= gap && clinksNow(c)) {
                        coin.place = GROUND;
                        coin.fall = stepAhead;
                    } else {
                        coin.cell = Math.min(coin.cell + coin.pace(), LAST_CELL);
                    }
                }
            }
        }
    }

    private static final class Sheet {
        private int bits = 0;
        private int length = 0;
        private final int[] numbers = new int[SHEET_ROOM];

        /** With 0 bits it is missing, and has no numbers. */
        void renew(int newBits, int n) {
            bits = newBits;
            length = newBits == 0 ? 0 : n;
            for (int i = 0; i < SHEET_ROOM; i++) {
                numbers[i] = 0;
            }
        }

        boolean isMissing() {
            return bits == 0;
        }

        boolean hasRange(int from, int n) {
            return from >= 0 && n >= 0 && n <= length - from;
        }

        void set(int i, int v) {
            if (bits == 8) {
                numbers[i] = (byte) v;
            } else if (bits == 16) {
                numbers[i] = (short) v;
            } else {
                numbers[i] = v;
            }
        }
    }

    /** The bytes of a text, and the reader of it, who looks at one token at a time. */
    private static final class Tape {
        private static final int END = 0;
        private static final int WORD = 1;
        private static final int NUMBER = 2;
        private static final int SIGN = 3;
        private static final int STRANGE = 4;
        private static final int TOO_MUCH = 1000;

        private final int[] bytes = new int[TAPE_ROOM];
        private int length = 0;
        // The token that is looked at: its bytes are those from begin to ahead of end.
        private int begin = 0;
        private int end = 0;
        private int sort = END;
        private int value = 0;

        void add(int b) {
            bytes[length] = b;
            length++;
        }

        /** How many items came into a coat; -1 less the fault if there is one. */
        int readInto(Coat coat) {
            end = 0;
            toNextToken();
            for (int items = 1; items <= TAPE_ROOM; items++) {
                boolean reads = takesWord("hole") ? readsHole(coat)
                    : takesWord("gap") ? readsGap(coat) : readsCoin(coat);
                if (!reads) {
                    return -1 - begin;
                }
                if (sort == END) {
                    return items;
                }
                if (sort != SIGN) {
                    return -1 - begin;
                }
                toNextToken();
            }
            return -1 - begin;
        }

        /** False, as with all that reads: the token that is looked at can't stand there. */
        private boolean readsHole(Coat coat) {
            int hole = takenNumber(0, WIDEST);
            if (hole == NOTHING) {
                return false;
            }
            coat.hole = hole;
            return true;
        }

        private boolean readsGap(Coat coat) {
            int gap = takenNumber(0, WIDEST);
            if (gap == NOTHING || !takesWord("at")) {
                return false;
            }
            int at = takenNumber(0, LAST_CELL);
            if (at == NOTHING) {
                return false;
            }
            coat.gap = gap;
            coat.at = at;
            return true;
        }

        private boolean readsCoin(Coat coat) {
            int kind = kindTold();
            if (kind == NOTHING || coat.coins >= MOST_COINS) {
                return false;
            }
            toNextToken();
            Coin coin = coat.newCoin(kind);
            if (!readsPart(coin, "size", ITS_SIZE, 1, MOST_SIZE)
                || !readsPart(coin, "weight", ITS_WEIGHT, 1, MOST_WEIGHT)
                || !readsPart(coin, "pence", ITS_PENCE, 0, MOST_PENCE)) {
                return false;
            }
            if (takesWord("left")) {
                coin.moveTo(LEFT);
            }
            return true;
        }

        /** A part of a coin that may be told or not. */
        private boolean readsPart(Coin coin, String word, int what, int least, int most) {
            if (!takesWord(word)) {
                return true;
            }
            int v = takenNumber(least, most);
            if (v == NOTHING) {
                return false;
            }
            coin.set(what, v);
            return true;
        }

        private int kindTold() {
            for (int kind = COIN; kind <= TICKET; kind++) {
                if (isWord(nameOf(kind))) {
                    return kind;
                }
            }
            return NOTHING;
        }

        private static String nameOf(int kind) {
            switch (kind) {
                case COIN:
                    return "coin";
                case WRAPPED:
                    return "wrapped";
                case HEAVY:
                    return "heavy";
                case KNOTTED:
                    return "knotted";
                case KEY:
                    return "key";
                case FLAT:
                    return "flat";
                default:
                    return "ticket";
            }
        }

        private boolean takesWord(String word) {
            if (!isWord(word)) {
                return false;
            }
            toNextToken();
            return true;
        }

        private boolean isWord(String word) {
            if (sort != WORD || end - begin != word.length()) {
                return false;
            }
            for (int i = 0; i < word.length(); i++) {
                if (bytes[begin + i] != word.charAt(i)) {
                    return false;
                }
            }
            return true;
        }

        private int takenNumber(int least, int most) {
            if (sort != NUMBER || !isWithin(value, least, most)) {
                return NOTHING;
            }
            int taken = value;
            toNextToken();
            return taken;
        }

        private void toNextToken() {
            begin = end;
            while (begin < length && bytes[begin] == ' ') {
                begin++;
            }
            end = begin;
            if (begin >= length) {
                sort = END;
            } else if (isLetter(bytes[begin])) {
                sort = WORD;
                while (end < length && isLetter(bytes[end])) {
                    end++;
                }
            } else if (isDigit(bytes[begin])) {
                sort = NUMBER;
                value = 0;
                while (end < length && isDigit(bytes[end])) {
                    value = Math.min(value * 10 + bytes[end] - '0', TOO_MUCH);
                    end++;
                }
            } else {
                sort = bytes[begin] == ';' ? SIGN : STRANGE;
                end++;
            }
        }

        private static boolean isLetter(int b) {
            return b >= 'a' && b <= 'z';
        }

        private static boolean isDigit(int b) {
            return b >= '0' && b <= '9';
        }
    }
}
