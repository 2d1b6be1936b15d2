/**
 * The Circle line to the inner man: riders of kinds at the stops of a circle, trains that go by,
 * rules told in a text, plans for what is to come, and things of kinds with acts.
 * What it must do is told, promise by promise, in ../shared/DOC.md.
 */
public final class InnerCircle {
    public static final int BAD = -1, FULL = -2, NONE = -3, STATE = -4;

    private static final int NO_ROW = -9;
    private static final int NOTHING = -11, OUTSIDE = -12, OTHER_SORT = -13, BELOW_ZERO = -14, PARTED_BY_ZERO = -15;
    private static final int RIDERS = 6, STOPS = 6, KINDS = 6, TRAINS = 16, RULES = 8, REPORTS = 6;
    private static final int DEEPEST = 99, HIGHEST = 9, LOST_FROM = 50, NEAR = 4, LONGEST_PLAN = 4;
    private static final int TAPE = 200, SHEETS = 4, SHELVES = 4, ITEMS = 40, BODIES = 30;
    private static final int EXIT = 0, RIDE = 1, STAY = 2;
    private static final int MISSING = -1, OF_BYTES = 0, OF_BOOLEANS = 4;
    private static final int A_RIDER = 0, A_ROW = 1, EMPTY = 2;

    /** By KIND: the one that it is under. */
    private static final int[] ABOVE = {0, 0, 0, 2, 0, 4};

    private final Net net;
    private final Net kept;
    private boolean isKept;

    /** What is asked changes nothing, so it is tried on this copy. */
    private final Moment trial = new Moment();
    private final Plans plans;

    private final byte[] tape = new byte[TAPE];
    private int taped;
    /** A TEXT at FAULT leaves THE RULES as they were, so it is read into these first. */
    private final Rules draft = new Rules();

    private final int[][] rows = new int[LONGEST_PLAN][3];
    private int rowCount;

    private final int[] sheetSort = {MISSING, MISSING, MISSING, MISSING};
    private final int[] sheetSize = new int[SHEETS];
    private final int[][] items = new int[SHEETS][ITEMS];

    private final int[] shelfHolds = {EMPTY, EMPTY, EMPTY, EMPTY};
    /** The number of the RIDER, or the sort of the row. */
    private final int[] shelfThing = new int[SHELVES];
    /** A row is held itself: a SHEET that becomes another one later doesn't change it. */
    private final int[] shelfSize = new int[SHELVES];

    /** The thing that acted latest, which knows THE TRACE; null, if there is none. */
    private Rider actor;

    public InnerCircle() {
        Rider[] kinds = new Rider[KINDS];
        kinds[0] = new Rider();
        kinds[1] = new Regular();
        kinds[2] = new Lady();
        kinds[3] = new Father();
        kinds[4] = new Clerk();
        kinds[5] = new Barrier();
        net = new Net(kinds);
        kept = new Net(kinds);
        plans = new Plans(net);
    }

    // ---- the net, riders

    public int rider(int kind, int depth, int wish, int home) {
        boolean isSuch = isMadeKind(kind) && within(depth, 0, DEEPEST) && within(wish, 0, HIGHEST) && isStop(home);
        if (!isSuch) return BAD;
        if (net.riders >= RIDERS) return FULL;
        return net.add(kind, depth, wish, home);
    }

    public int riderOf(int k, int what) {
        if (!isRider(k)) return BAD;
        Moment now = net.now;
        switch (what) {
            case 0: return net.kind[k];
            case 1: return now.depth[k];
            case 2: return net.wish[k];
            case 3: return net.home[k];
            case 4: return now.isOut(k) ? 1 : 0;
            case 5: return now.at[k];
            case 6: return net.sinking(now, k);
            case 7: return net.drifting(k, now.train);
            case 8: return net.pays(now, k);
            case 9: return net.deed(now, k) == EXIT ? 1 : 0;
            case 10: return net.will(now, k);
            default: return BAD;
        }
    }

    public int change(int k, int what, int v) {
        if (!isRider(k) || !within(what, 1, 5) || !within(v, 0, mostOf(what))) return BAD;
        int was = riderOf(k, what);
        net.put(k, what, v);
        return was;
    }

    public int remake(int k, int kind) {
        if (!isRider(k) || !isMadeKind(kind)) return BAD;
        int was = net.kind[k];
        net.kind[k] = kind;
        return was;
    }

    public int crowd(int train, int v) {
        if (!within(train, 0, TRAINS - 1) || !within(v, 0, 15)) return BAD;
        int was = net.crowds[train];
        net.crowds[train] = v;
        return was;
    }

    public int home(int f, int what, int v) {
        int was = homeOf(f, what);
        if (was < 0 || !within(v, 0, HIGHEST)) return BAD;
        if (what == 0) net.gardens[f] = v;
        else net.posters[f] = v;
        return was;
    }

    public int homeOf(int f, int what) {
        if (!isStop(f) || !within(what, 0, 1)) return BAD;
        return what == 0 ? net.gardens[f] : net.posters[f];
    }

    public int ends(int v) {
        if (!within(v, 1, TRAINS)) return BAD;
        if (v < net.now.train) return STATE;
        int was = net.end;
        net.end = v;
        return was;
    }

    public int anew() {
        int was = net.now.train;
        net.startAgain();
        return was;
    }

    public int state(int what) {
        switch (what) {
            case 0: return net.now.train;
            case 1: return net.end;
            case 2: return net.score;
            case 3: return net.isOver(net.now) ? 1 : 0;
            case 4: return net.now.outs;
            case 5: return net.crowdOf(net.now.train);
            case 6: return net.atHome();
            default: return BAD;
        }
    }

    // ---- the rules

    public int feed(long eight, int n) {
        if (!within(n, 1, 8)) return BAD;
        if (taped + n > TAPE) return FULL;
        for (int i = 0; i < n; i++) tape[taped + i] = (byte) (eight >>> 8 * i);
        taped += n;
        return taped;
    }

    public int rules() {
        int fault = draft.read(tape, taped);
        taped = 0;
        if (fault >= 0) return -100 - fault;
        net.rules.become(draft);
        return net.rules.count;
    }

    // ---- trains

    public int train() {
        if (net.isOver(net.now)) return STATE;
        return net.goes(net.actOfRest(net.now));
    }

    public int on(int n) {
        if (!within(n, 0, TRAINS)) return BAD;
        return tryRest(n);
    }

    public int when(int k) {
        if (!isRider(k)) return BAD;
        if (net.now.isOut(k)) return NONE;
        trial.become(net.now);
        for (int i = 0; i < TRAINS && !net.isOver(trial); i++) {
            int goes = trial.train;
            net.goBy(trial, net.actOfRest(trial));
            if (trial.isOut(k)) return goes;
        }
        return NONE;
    }

    public int wishFor(int k) {
        return isRider(k) ? bestFor(k, net.wish, HIGHEST) : BAD;
    }

    public int homeFor(int k) {
        return isRider(k) ? bestFor(k, net.home, STOPS - 1) : BAD;
    }

    // ---- who is lost, how soon one may be somewhere, carriages, the press

    public int lost(int k) {
        if (!isRider(k)) return BAD;
        trial.become(net.now);
        for (int i = 0; i <= TRAINS; i++) {
            if (trial.depth[k] >= LOST_FROM) return trial.train;
            if (net.isOver(trial)) return NONE;
            net.goBy(trial, net.actOfRest(trial));
        }
        return NONE;
    }

    public int reach(int k, int f) {
        if (!isRider(k) || !isStop(f)) return BAD;
        int stops = 1 << net.now.at[k];
        for (int trains = 0; trains <= TRAINS; trains++) {
            if (has(stops, f)) return trains;
            stops = turned(stops | turned(stops, 1), net.drifting(k, net.now.train + trains));
        }
        return NONE;
    }

    public int carriages(int what) {
        if (what != -1 && !isRider(what)) return BAD;
        if (what != -1) return carriageOf(what);
        int count = 0;
        for (int k = 0; k < net.riders; k++) {
            int carriage = carriageOf(k);
            // each CARRIAGE is counted at the least RIDER in it
            if (carriage != 0 && (carriage & (1 << k) - 1) == 0) count++;
        }
        return count;
    }

    public int press(int n, int what) {
        if (!within(n, 0, TRAINS) || !within(what, 0, 1)) return BAD;
        tryRest(n);
        int stop = net.fullest(trial);
        return what == 0 ? stop : net.standing[stop];
    }

    // ---- plans

    public int best(int n) {
        if (!isPlanLength(n)) return BAD;
        plans.tryAll(n, 0);
        return plans.most;
    }

    public int ith(int n, int i) {
        if (!isPlanLength(n) || !within(i, 0, LONGEST_PLAN - 1)) return BAD;
        plans.tryAll(n, 0);
        return i < plans.length ? plans.first[i] : NONE;
    }

    public int ways(int n) {
        if (!isPlanLength(n)) return BAD;
        plans.tryAll(n, 0);
        return plans.bestOnes;
    }

    public int ticket(int n, int riders) {
        if (!isPlanLength(n) || !isSetOfRiders(riders)) return BAD;
        plans.tryAll(n, riders);
        return plans.fewest;
    }

    public int bars(int n, int riders) {
        if (!isPlanLength(n) || !isSetOfRiders(riders)) return BAD;
        plans.tryAll(n, riders);
        for (int k = 0; k < net.riders; k++) {
            if (has(riders, k) && !has(plans.everOut, k)) return k;
        }
        return NONE;
    }

    // ---- a game, strangers, lots

    public int game(int n) {
        if (!within(n, 1, LONGEST_PLAN)) return BAD;
        return plans.contest(n);
    }

    public int play(int n) {
        if (!within(n, 1, LONGEST_PLAN)) return BAD;
        if (net.isOver(net.now)) return NONE;
        plans.contest(n);
        return plans.opening;
    }

    public int report(int k, int asked, int least, int most) {
        boolean isSuch = within(k, 0, TRAINS - 1) && within(asked, 0, 1) && least >= 0 && most >= least
                && most <= (asked == 0 ? STOPS - 1 : DEEPEST);
        if (!isSuch) return BAD;
        if (net.reports.count >= REPORTS) return FULL;
        return net.reports.add(k, asked, least, most);
    }

    public int forget() {
        int was = net.reports.count;
        net.reports.count = 0;
        return was;
    }

    public int lone(int what) {
        if (!within(what, 0, 3)) return BAD;
        Reports reports = net.reports;
        reports.ask(net);
        if (what == 0) return reports.fits;
        if (reports.fits == 0) return NONE;
        return what == 1 ? reports.loneKind : what == 2 ? reports.loneStop : reports.loneDepth;
    }

    public int liar() {
        net.reports.ask(net);
        if (net.reports.fits > 0) return NONE;
        for (int i = 0; i < REPORTS; i++) {
            if (has(net.reports.suspects, i)) return i;
        }
        return NONE;
    }

    public int seed(int v) {
        int was = net.chance;
        net.chance = v;
        return was;
    }

    public int lot() {
        if (net.isOver(net.now)) return STATE;
        net.chance = nextChance(net.chance);
        return net.goes(net.actByLot(net.chance));
    }

    public int times(int n, int v) {
        if (!within(n, 1, 40) || !within(v, 0, 999)) return BAD;
        int count = 0, z = net.chance;
        for (int time = 0; time < n; time++) {
            trial.become(net.now);
            int worth = 0;
            for (int i = 0; i < TRAINS && !net.isOver(trial); i++) {
                z = nextChance(z);
                worth += net.goBy(trial, net.actByLot(z));
            }
            if (worth >= v) count++;
        }
        return count;
    }

    // ---- rows

    public int prove(int n) {
        if (!isPlanLength(n)) return BAD;
        plans.tryAll(n, 0);
        rowCount = plans.length;
        trial.become(net.now);
        for (int i = 0; i < rowCount; i++) {
            rows[i][0] = plans.first[i];
            rows[i][1] = net.goBy(trial, plans.first[i]);
            rows[i][2] = trial.outs;
        }
        return rowCount;
    }

    public int row(int k, int what) {
        return isCell(k, what) ? rows[k][what] : NO_ROW;
    }

    public int alterRow(int k, int what, int v) {
        if (!isCell(k, what)) return NO_ROW;
        int was = rows[k][what];
        rows[k][what] = v;
        return was;
    }

    public int judge() {
        trial.become(net.now);
        for (int i = 0; i < rowCount; i++) {
            if (!isAct(rows[i][0]) || net.isOver(trial)) return i + 1;
            int worth = net.goBy(trial, rows[i][0]);
            if (rows[i][1] != worth || rows[i][2] != trial.outs) return i + 1;
        }
        return 0;
    }

    // ---- the host

    public int sheet(int sheet, int sort, int n) {
        if (!isSheet(sheet) || !within(sort, MISSING, OF_BOOLEANS)) return BAD;
        if (sort != MISSING && n > ITEMS) return BAD;
        if (sort != MISSING && n < 0) return BELOW_ZERO;
        sheetSort[sheet] = sort;
        sheetSize[sheet] = sort == MISSING ? 0 : n;
        for (int i = 0; i < ITEMS; i++) items[sheet][i] = 0;
        return 1;
    }

    public int write(int sheet, int i, int v) {
        if (!isSheet(sheet)) return BAD;
        if (sheetSort[sheet] == MISSING) return NOTHING;
        if (!within(i, 0, sheetSize[sheet] - 1)) return OUTSIDE;
        items[sheet][i] = narrowed(v, sheetSort[sheet]);
        return 1;
    }

    public int item(int sheet, int sort, int i) {
        if (!isSheet(sheet) || !within(sort, OF_BYTES, OF_BOOLEANS)) return BAD;
        if (sheetSort[sheet] == MISSING) return NOTHING;
        if (sheetSort[sheet] != sort) return OTHER_SORT;
        if (!within(i, 0, sheetSize[sheet] - 1)) return OUTSIDE;
        return items[sheet][i];
    }

    public int goAll(int sheet, int i, int n) {
        int refused = refusedActs(sheet, n);
        if (refused != 0) return refused;
        int worth = 0, place = i;
        for (int done = 0; done < n; done++) {
            if (!within(place, 0, sheetSize[sheet] - 1)) return OUTSIDE;
            int act = items[sheet][place];
            if (isAct(act) && !net.isOver(net.now)) worth += net.goes(act);
            place++;
        }
        return worth;
    }

    public int wouldBe(int sheet, int i, int n) {
        int refused = refusedActs(sheet, n);
        if (refused != 0) return refused;
        int worth = 0, place = i;
        trial.become(net.now);
        for (int done = 0; done < n; done++) {
            if (!within(place, 0, sheetSize[sheet] - 1)) return OUTSIDE;
            int act = items[sheet][place];
            if (!isAct(act) || net.isOver(trial)) return STATE;
            worth += net.goBy(trial, act);
            place++;
        }
        return worth;
    }

    public int shelf(int shelf, int what, int n) {
        if (!isShelf(shelf) || !within(what, A_RIDER, EMPTY)) return BAD;
        if (what == A_RIDER && !isRider(n) || what == A_ROW && !isSheet(n)) return BAD;
        shelfHolds[shelf] = what;
        if (what == A_RIDER) shelfThing[shelf] = n;
        if (what == A_ROW) putRowOn(shelf, n);
        return 1;
    }

    public int taken(int shelf, int as) {
        boolean asKind = within(as, 0, KINDS - 1);
        if (!isShelf(shelf) || !asKind && !within(as, 10 + OF_BYTES, 10 + OF_BOOLEANS)) return BAD;
        if (shelfHolds[shelf] == A_ROW) return as - 10 == shelfThing[shelf] ? shelfSize[shelf] : OTHER_SORT;
        int k = riderOn(shelf);
        if (k < 0) return NOTHING;
        return asKind && isUnder(net.kind[k], as) ? k : OTHER_SORT;
    }

    public int act(int shelf, int act, int x) {
        actor = null;
        int k = isShelf(shelf) && within(act, 0, 3) ? riderOn(shelf) : NONE;
        if (k < 0) return 0;
        actor = net.kinds[net.kind[k]];
        actor.become(k, net.home[k]);
        int answer;
        if (act == 0) answer = actor.stands(x);
        else if (act == 1) answer = actor.reads(x);
        else if (act == 2) answer = actor.rounds(x);
        else answer = actor.rises(x);
        return actor.isStopped ? PARTED_BY_ZERO : answer;
    }

    public int trace(int i) {
        return actor != null && within(i, 0, actor.ran - 1) ? actor.bodies[i] : NONE;
    }

    public int many(int what) {
        switch (what) {
            case 0: return net.riders;
            case 1: return net.rules.count;
            case 2: return Integer.bitCount(net.now.outs);
            case 3: return net.reports.count;
            case 4: return rowCount;
            case 5: return taped;
            case 6: return actor == null ? 0 : actor.ran;
            default: return BAD;
        }
    }

    // ---- kept

    public int keep() {
        kept.become(net);
        isKept = true;
        return 1;
    }

    public int again() {
        if (!isKept) return NONE;
        net.become(kept);
        return net.riders;
    }

    // ---- what the calls share

    private static boolean within(int v, int least, int most) {
        return v >= least && v <= most;
    }

    private static boolean has(int set, int k) {
        return (set >> k & 1) != 0;
    }

    private static boolean isMadeKind(int kind) {
        return within(kind, 1, KINDS - 1);
    }

    private static boolean isUnder(int kind, int above) {
        return kind == above || above == 0 || ABOVE[kind] == above;
    }

    private static boolean isStop(int f) {
        return within(f, 0, STOPS - 1);
    }

    private static boolean isPlanLength(int n) {
        return within(n, 0, LONGEST_PLAN);
    }

    private static boolean isSheet(int sheet) {
        return within(sheet, 0, SHEETS - 1);
    }

    private static boolean isShelf(int shelf) {
        return within(shelf, 0, SHELVES - 1);
    }

    private boolean isRider(int k) {
        return within(k, 0, net.riders - 1);
    }

    private boolean isSetOfRiders(int set) {
        return within(set, 0, (1 << net.riders) - 1);
    }

    private boolean isAct(int act) {
        return within(act, 0, net.riders);
    }

    private boolean isCell(int k, int what) {
        return within(k, 0, rowCount - 1) && within(what, 0, 2);
    }

    /** The most that change() takes, by what it changes. */
    private static int mostOf(int what) {
        switch (what) {
            case 1: return DEEPEST;
            case 2: return HIGHEST;
            case 4: return 1;
            default: return STOPS - 1;
        }
    }

    private static int nextChance(int z) {
        return z * 1103515245 + 12345;
    }

    /** A set of STOPS, each so far on in the circle. */
    private static int turned(int stops, int by) {
        int turn = Math.floorMod(by, STOPS);
        return (stops << turn | stops >> STOPS - turn) & (1 << STOPS) - 1;
    }

    /** What n TRAINS of THE REST are WORTH; the trial is behind them then. */
    private int tryRest(int n) {
        trial.become(net.now);
        int worth = 0;
        for (int i = 0; i < n && !net.isOver(trial); i++) worth += net.goBy(trial, net.actOfRest(trial));
        return worth;
    }

    /** The least of 0 to highest that makes THE REST WORTH most where it stands for a RIDER in a row of the net. */
    private int bestFor(int k, int[] row, int highest) {
        int was = row[k], most = -1, best = 0;
        for (int v = 0; v <= highest; v++) {
            row[k] = v;
            int worth = tryRest(TRAINS);
            if (worth > most) {
                most = worth;
                best = v;
            }
        }
        row[k] = was;
        return best;
    }

    private int carriageOf(int k) {
        if (net.now.isOut(k)) return 0;
        int set = 1 << k;
        // a chain of RIDERS is no longer than there are RIDERS
        for (int round = 0; round < net.riders; round++) {
            for (int one = 0; one < net.riders; one++) {
                if (has(set, one)) set |= net.closeTo(one);
            }
        }
        return set;
    }

    /** Why goAll() and wouldBe() refuse such a SHEET, such a number of items; 0, if they don't. */
    private int refusedActs(int sheet, int n) {
        if (!isSheet(sheet) || !within(n, 0, 20)) return BAD;
        if (sheetSort[sheet] == MISSING) return NOTHING;
        return sheetSort[sheet] == OF_BYTES ? 0 : OTHER_SORT;
    }

    private static int narrowed(int v, int sort) {
        switch (sort) {
            case 0: return (byte) v;
            case 1: return (short) v;
            case 4: return v != 0 ? 1 : 0;
            default: return v; // of a long only the lowest 32 bits are ever asked
        }
    }

    private void putRowOn(int shelf, int sheet) {
        if (sheetSort[sheet] == MISSING) {
            shelfHolds[shelf] = EMPTY;
            return;
        }
        shelfThing[shelf] = sheetSort[sheet];
        shelfSize[shelf] = sheetSize[sheet];
    }

    private int riderOn(int shelf) {
        return shelfHolds[shelf] == A_RIDER && isRider(shelfThing[shelf]) ? shelfThing[shelf] : NONE;
    }

    /** What a TRAIN changes: where it is tried out, this alone is copied. */
    private static final class Moment {
        int train;
        int outs;
        final int[] depth = new int[RIDERS];
        final int[] at = new int[RIDERS];

        void become(Moment other) {
            train = other.train;
            outs = other.outs;
            System.arraycopy(other.depth, 0, depth, 0, RIDERS);
            System.arraycopy(other.at, 0, at, 0, RIDERS);
        }

        boolean isOut(int k) {
            return (outs >> k & 1) != 0;
        }
    }

    /** All that keep() keeps. */
    private static final class Net {
        final Rider[] kinds;
        final int[] crowds = new int[TRAINS];
        final int[] gardens = new int[STOPS];
        final int[] posters = new int[STOPS];
        final int[] kind = new int[RIDERS];
        final int[] wish = new int[RIDERS];
        final int[] home = new int[RIDERS];
        final Moment now = new Moment();
        final Rules rules = new Rules();
        final Reports reports = new Reports();
        int riders;
        int end = 12;
        int score;
        int chance = 1;
        /** By STOP: how many RIDERS are AT it that aren't OUT, when they were counted latest. */
        final int[] standing = new int[STOPS];
        private final int[] facts = new int[Rules.FACTS];

        Net(Rider[] kinds) {
            this.kinds = kinds;
            for (int i = 0; i < TRAINS; i++) crowds[i] = 5;
        }

        void become(Net other) {
            System.arraycopy(other.crowds, 0, crowds, 0, TRAINS);
            System.arraycopy(other.gardens, 0, gardens, 0, STOPS);
            System.arraycopy(other.posters, 0, posters, 0, STOPS);
            System.arraycopy(other.kind, 0, kind, 0, RIDERS);
            System.arraycopy(other.wish, 0, wish, 0, RIDERS);
            System.arraycopy(other.home, 0, home, 0, RIDERS);
            now.become(other.now);
            rules.become(other.rules);
            reports.become(other.reports);
            riders = other.riders;
            end = other.end;
            score = other.score;
            chance = other.chance;
        }

        int add(int kindOfIt, int depth, int wishOfIt, int homeOfIt) {
            int k = riders;
            kind[k] = kindOfIt;
            wish[k] = wishOfIt;
            home[k] = homeOfIt;
            now.depth[k] = depth;
            now.at[k] = homeOfIt;
            riders++;
            return k;
        }

        void put(int k, int what, int v) {
            switch (what) {
                case 1: now.depth[k] = v; break;
                case 2: wish[k] = v; break;
                case 3: home[k] = v; break;
                case 4: now.outs = now.outs & ~(1 << k) | v << k; break;
                case 5: now.at[k] = v; break;
                default: break;
            }
        }

        void startAgain() {
            now.train = 0;
            now.outs = 0;
            score = 0;
            for (int k = 0; k < riders; k++) now.at[k] = home[k];
        }

        int atHome() {
            int set = 0;
            for (int k = 0; k < riders; k++) {
                if (now.at[k] == home[k]) set |= 1 << k;
            }
            return set;
        }

        boolean isOver(Moment m) {
            return m.train >= end;
        }

        int crowdOf(int train) {
            return train >= 0 && train < TRAINS ? crowds[train] : 0;
        }

        void count(Moment m) {
            for (int f = 0; f < STOPS; f++) standing[f] = 0;
            for (int k = 0; k < riders; k++) {
                if (!m.isOut(k)) standing[m.at[k]]++;
            }
        }

        int fullest(Moment m) {
            count(m);
            int fullest = 0;
            for (int f = 1; f < STOPS; f++) {
                if (standing[f] > standing[fullest]) fullest = f;
            }
            return fullest;
        }

        /** The RIDERS that are CLOSE to one that isn't OUT, as a set. */
        int closeTo(int k) {
            int set = 0;
            for (int one = 0; one < riders; one++) {
                boolean isNear = Math.abs(now.depth[one] - now.depth[k]) <= NEAR;
                if (!now.isOut(one) && (isNear || now.at[one] == now.at[k])) set |= 1 << one;
            }
            return set;
        }

        int sinking(Moment m, int k) {
            count(m);
            int others = standing[m.at[k]] - (m.isOut(k) ? 0 : 1);
            int crowd = crowdOf(m.train);
            return kinds[kind[k]].sinks(crowd >> 2, crowd & 3, others);
        }

        int drifting(int k, int train) {
            return kinds[kind[k]].drifts(train);
        }

        int pays(Moment m, int k) {
            if (m.isOut(k)) return 0;
            int stop = m.at[k];
            int full = wish[k] + gardens[stop] + (stop == home[k] ? 9 : 2);
            return Math.max(0, full - m.depth[k] / 7);
        }

        int will(Moment m, int k) {
            if (rules.count == 0) return EXIT;
            facts[0] = m.train;
            facts[1] = m.depth[k];
            facts[2] = wish[k];
            facts[3] = crowdOf(m.train) >> 2;
            facts[4] = k;
            for (int i = 0; i < rules.count; i++) {
                if (isUnder(kind[k], rules.kind[i]) && rules.holds(i, facts)) return rules.deed[i];
            }
            return EXIT;
        }

        /** What it comes to when a RIDER is told: who is OUT, or would exit and PAYS nothing, stays. */
        int deed(Moment m, int k) {
            if (m.isOut(k)) return STAY;
            int will = will(m, k);
            return will == EXIT && pays(m, k) == 0 ? STAY : will;
        }

        /** The RIDERS of which it changes nothing when they are told, as a set. */
        int idlers(Moment m) {
            int set = 0;
            for (int k = 0; k < riders; k++) {
                if (deed(m, k) == STAY) set |= 1 << k;
            }
            return set;
        }

        int actOfRest(Moment m) {
            for (int k = 0; k < riders; k++) {
                if (deed(m, k) == EXIT) return k + 1;
            }
            return 0;
        }

        int actByLot(int z) {
            return (z >>> 16) % (riders + 1);
        }

        /** A TRAIN goes by for good. */
        int goes(int act) {
            int worth = goBy(now, act);
            score += worth;
            return worth;
        }

        /** A TRAIN goes by in a moment, that of now or a copy: what it is WORTH. */
        int goBy(Moment m, int act) {
            int crowd = crowdOf(m.train), rush = crowd >> 2, lamps = crowd & 3;
            int worth = act > 0 ? obey(m, act - 1, lamps) : 0;
            // all sink as they stand now: none may drift before they are counted
            count(m);
            for (int k = 0; k < riders; k++) {
                if (m.isOut(k)) continue;
                int stop = m.at[k];
                Rider it = kinds[kind[k]];
                m.depth[k] = Math.min(DEEPEST, m.depth[k] + it.sinks(rush, lamps, standing[stop] - 1));
                m.at[k] = (stop + it.drifts(m.train)) % STOPS;
                if (m.at[k] == home[k]) worth++;
            }
            m.train++;
            return worth;
        }

        private int obey(Moment m, int k, int lamps) {
            int deed = deed(m, k);
            if (deed == STAY) return 0;
            if (deed == EXIT) {
                int worth = pays(m, k);
                m.outs |= 1 << k;
                return worth;
            }
            int next = (m.at[k] + 1) % STOPS;
            m.at[k] = next;
            m.depth[k] = Math.max(0, m.depth[k] - posters[next]);
            return lamps > 0 ? 1 : 0;
        }
    }

    /** THE RULES, and how a TEXT is read into them. */
    private static final class Rules {
        static final int FACTS = 5;
        /** In the code: an operand from here on is a FACT; what is below 0 is no comparison. */
        private static final int FACT = 10000;
        private static final int NOT = -1, AND = -2, OR = -3;
        private static final int OPERAND = 14, OPERAND_BITS = (1 << OPERAND) - 1;
        private static final int OPEN_MOST = 3, DIGITS_MOST = 4;
        private static final int AT_END = 0, NAME = 1, NUMBER = 2, OTHER = 3;

        int count;
        final int[] kind = new int[RULES];
        final int[] deed = new int[RULES];
        /** Where the code of each RULE's condition ends; it begins where that of the one before ends. */
        private final int[] ends = new int[RULES];
        /** Conditions, operators behind their operands; one byte of TEXT makes one step at most. */
        private final int[] code = new int[TAPE];
        private int size;

        /** While a TEXT is read: what is read, and the word in it that comes (from, to, of what sort). */
        private byte[] text = new byte[0];
        private int length;
        private int from;
        private int to;
        private int sort;

        void become(Rules other) {
            count = other.count;
            size = other.size;
            System.arraycopy(other.kind, 0, kind, 0, RULES);
            System.arraycopy(other.deed, 0, deed, 0, RULES);
            System.arraycopy(other.ends, 0, ends, 0, RULES);
            System.arraycopy(other.code, 0, code, 0, TAPE);
        }

        boolean holds(int rule, int[] known) {
            int first = rule == 0 ? 0 : ends[rule - 1];
            // a stack of bits, the latest lowest; without a condition it is so
            int truths = 1;
            for (int i = first; i < ends[rule]; i++) {
                int step = code[i];
                if (step == NOT) {
                    truths ^= 1;
                } else if (step == AND) {
                    truths = truths >> 1 & (truths | ~1);
                } else if (step == OR) {
                    truths = truths >> 1 | truths & 1;
                } else {
                    int left = step & OPERAND_BITS, right = step >> OPERAND & OPERAND_BITS;
                    if (left >= FACT) left = known[left - FACT];
                    if (right >= FACT) right = known[right - FACT];
                    int sign = step >> 2 * OPERAND;
                    boolean is = sign == 0 ? left < right : sign == 1 ? left == right : left > right;
                    truths = truths << 1 | (is ? 1 : 0);
                }
            }
            return (truths & 1) != 0;
        }

        /** The FAULT of n bytes; -1, if there is none: then these are their RULES. */
        int read(byte[] bytes, int n) {
            text = bytes;
            length = Math.min(n, bytes.length);
            count = 0;
            size = 0;
            to = 0;
            advance();
            for (int i = 0; i <= RULES && sort != AT_END; i++) {
                if (count == RULES || !readRule()) return from;
            }
            return -1;
        }

        private boolean readRule() {
            int kindNamed = kindNamed();
            if (kindNamed < 0) return false;
            advance();
            if (isNamed("if")) {
                advance();
                if (!readCondition(0)) return false;
            }
            int deedNamed = deedNamed();
            if (deedNamed < 0) return false;
            advance();
            if (!isByte(';')) return false;
            advance();
            kind[count] = kindNamed;
            deed[count] = deedNamed;
            ends[count] = size;
            count++;
            return true;
        }

        private boolean readCondition(int open) {
            if (!readAll(open)) return false;
            for (int i = 0; i < TAPE && isNamed("or"); i++) {
                advance();
                if (!readAll(open) || !emit(OR)) return false;
            }
            return true;
        }

        private boolean readAll(int open) {
            if (!readOne(open)) return false;
            for (int i = 0; i < TAPE && isNamed("and"); i++) {
                advance();
                if (!readOne(open) || !emit(AND)) return false;
            }
            return true;
        }

        private boolean readOne(int open) {
            boolean isDenied = false;
            for (int i = 0; i < TAPE && isNamed("not"); i++) {
                isDenied = !isDenied;
                advance();
            }
            if (isByte('(')) {
                if (open >= OPEN_MOST) return false;
                advance();
                if (!readCondition(open + 1) || !isByte(')')) return false;
                advance();
            } else {
                int left = valueRead();
                if (left < 0) return false;
                advance();
                int sign = isByte('<') ? 0 : isByte('=') ? 1 : isByte('>') ? 2 : -1;
                if (sign < 0) return false;
                advance();
                int right = valueRead();
                if (right < 0 || !emit(left | right << OPERAND | sign << 2 * OPERAND)) return false;
                advance();
            }
            return !isDenied || emit(NOT);
        }

        private boolean emit(int step) {
            if (size >= code.length) return false;
            code[size] = step;
            size++;
            return true;
        }

        /** A VALUE as an operand; below 0, if what comes is none. */
        private int valueRead() {
            if (sort == NUMBER && to - from <= DIGITS_MOST) {
                int number = 0;
                for (int i = from; i < to; i++) number = number * 10 + text[i] - '0';
                return number;
            }
            if (isNamed("train")) return FACT;
            if (isNamed("depth")) return FACT + 1;
            if (isNamed("wish")) return FACT + 2;
            if (isNamed("rush")) return FACT + 3;
            return isNamed("number") ? FACT + 4 : -1;
        }

        private int kindNamed() {
            if (isNamed("rider")) return 0;
            if (isNamed("regular")) return 1;
            if (isNamed("lady")) return 2;
            if (isNamed("father")) return 3;
            if (isNamed("clerk")) return 4;
            return isNamed("barrier") ? 5 : -1;
        }

        private int deedNamed() {
            if (isNamed("exit")) return EXIT;
            if (isNamed("ride")) return RIDE;
            return isNamed("stay") ? STAY : -1;
        }

        private boolean isNamed(String name) {
            if (sort != NAME || to - from != name.length()) return false;
            for (int i = 0; i < name.length(); i++) {
                if (text[from + i] != name.charAt(i)) return false;
            }
            return true;
        }

        private boolean isByte(char sign) {
            return sort == OTHER && text[from] == sign;
        }

        /** To the word that comes next: a NAME, a NUMBER, another byte, or the end. */
        private void advance() {
            from = to;
            while (from < length && text[from] == ' ') from++;
            to = from;
            sort = sortAt(from);
            if (sort == OTHER) to++;
            else while (to < length && sortAt(to) == sort) to++;
        }

        private int sortAt(int place) {
            if (place >= length) return AT_END;
            byte b = text[place];
            if (b >= 'a' && b <= 'z') return NAME;
            return b >= '0' && b <= '9' ? NUMBER : OTHER;
        }
    }

    /** PLANS, tried one by one, and GAMES. */
    private static final class Plans {
        private final Net net;
        /** By how many TRAINS of the PLAN have gone by. */
        private final Moment[] moments = new Moment[LONGEST_PLAN + 1];
        private final int[] acts = new int[LONGEST_PLAN];
        final int[] first = new int[LONGEST_PLAN];
        int length;
        int most;
        int bestOnes;
        int everOut;
        int fewest;
        private int wanted;
        int opening;

        Plans(Net net) {
            this.net = net;
            for (int i = 0; i <= LONGEST_PLAN; i++) moments[i] = new Moment();
        }

        private void begin(int n) {
            length = Math.max(0, Math.min(n, net.end - net.now.train));
            moments[0].become(net.now);
        }

        void tryAll(int n, int wantedOut) {
            begin(n);
            wanted = wantedOut;
            most = -1;
            bestOnes = 0;
            everOut = 0;
            fewest = NONE;
            branch(0, 0, 0, 1);
        }

        /** Those of whom nothing changes when they are told are tried once, by ACT 0, that stands for so many. */
        private void branch(int level, int worth, int told, int standsFor) {
            if (level >= length) {
                arrive(worth, told, standsFor);
                return;
            }
            Moment next = moments[level + 1];
            int idlers = net.idlers(moments[level]);
            for (int act = 0; act <= net.riders; act++) {
                if (act > 0 && has(idlers, act - 1)) continue;
                acts[level] = act;
                next.become(moments[level]);
                int more = net.goBy(next, act);
                if (act == 0) branch(level + 1, worth + more, told, standsFor * (1 + Integer.bitCount(idlers)));
                else branch(level + 1, worth + more, told + 1, standsFor);
            }
        }

        private void arrive(int worth, int told, int standsFor) {
            if (worth > most) {
                most = worth;
                bestOnes = 0;
                System.arraycopy(acts, 0, first, 0, length);
            }
            if (worth == most) bestOnes += standsFor;
            int outs = moments[length].outs;
            everOut |= outs;
            boolean isSo = (wanted & ~outs) == 0;
            if (isSo && (fewest == NONE || told < fewest)) fewest = told;
        }

        /** The VALUE of a GAME of n; the opening is the least ACT by which who begins comes to it. */
        int contest(int n) {
            begin(n);
            opening = 0;
            return valueFrom(0);
        }

        private int valueFrom(int level) {
            if (level >= length) return 0;
            Moment next = moments[level + 1];
            int idlers = net.idlers(moments[level]), value = 0;
            for (int act = 0; act <= net.riders; act++) {
                if (act > 0 && has(idlers, act - 1)) continue;
                next.become(moments[level]);
                int worth = net.goBy(next, act);
                worth += valueFrom(level + 1);
                boolean isBetter = level % 2 == 0 ? worth > value : worth < value;
                if (act == 0 || isBetter) {
                    value = worth;
                    if (level == 0) opening = act;
                }
            }
            return value;
        }
    }

    /** REPORTS, and the LONE RIDERS that FIT them. */
    private static final class Reports {
        private static final int DEPTH_MOST = 81, DEPTH_STEP = 9;

        int count;
        private final int[][] told = new int[REPORTS][4];
        /** By TRAIN: how much a LONE RIDER of a KIND has sunk and drifted by then. */
        private final int[] sunk = new int[TRAINS];
        private final int[] drifted = new int[TRAINS];
        int fits;
        int loneKind;
        int loneStop;
        int loneDepth;
        /** The REPORTS but for which some LONE RIDER would FIT, as a set. */
        int suspects;

        void become(Reports other) {
            count = other.count;
            for (int i = 0; i < REPORTS; i++) System.arraycopy(other.told[i], 0, told[i], 0, 4);
        }

        int add(int k, int asked, int least, int most) {
            int number = count;
            told[number][0] = k;
            told[number][1] = asked;
            told[number][2] = least;
            told[number][3] = most;
            count++;
            return number;
        }

        void ask(Net net) {
            fits = 0;
            suspects = 0;
            for (int kind = 1; kind < KINDS; kind++) {
                follow(net, kind);
                for (int stop = 0; stop < STOPS; stop++) {
                    for (int depth = 0; depth <= DEPTH_MOST; depth += DEPTH_STEP) hear(kind, stop, depth);
                }
            }
        }

        /** Alone, it sinks and drifts alike wherever it began, and however deep. */
        private void follow(Net net, int kind) {
            for (int train = 0; train < TRAINS - 1; train++) {
                int crowd = net.crowdOf(train);
                sunk[train + 1] = sunk[train] + net.kinds[kind].sinks(crowd >> 2, crowd & 3, 0);
                drifted[train + 1] = drifted[train] + net.kinds[kind].drifts(train);
            }
        }

        private void hear(int kind, int stop, int depth) {
            int wrong = wrongOf(stop, depth);
            if (Integer.bitCount(wrong) == 1) suspects |= wrong;
            if (wrong != 0) return;
            if (fits == 0) {
                loneKind = kind;
                loneStop = stop;
                loneDepth = depth;
            }
            fits++;
        }

        private int wrongOf(int stop, int depth) {
            int set = 0;
            for (int i = 0; i < count; i++) {
                int k = told[i][0];
                int is = told[i][1] == 0 ? (stop + drifted[k]) % STOPS : Math.min(DEEPEST, depth + sunk[k]);
                if (!within(is, told[i][2], told[i][3])) set |= 1 << i;
            }
            return set;
        }
    }

    /** A KIND: how it sinks and drifts, and its acts as a thing with a number n and a HOME a. */
    private static class Rider {
        int n;
        int a;
        final int[] bodies = new int[BODIES];
        int ran;
        /** Once something was parted by 0 the act is at its end: what is still worked out counts nothing. */
        boolean isStopped;

        void become(int number, int home) {
            n = number;
            a = home;
            ran = 0;
            isStopped = false;
        }

        void begins(int body) {
            if (isStopped || ran >= BODIES) return;
            bodies[ran] = body;
            ran++;
        }

        int sinks(int rush, int lamps, int others) {
            return rush + others;
        }

        int drifts(int train) {
            return 0;
        }

        int stands(int x) {
            begins(10);
            return x * 5 - n;
        }

        int reads(int x) {
            begins(11);
            return stands(x) + 4 * a;
        }

        int rounds(int x) {
            begins(12);
            int by = n - a + 4;
            if (by == 0) {
                isStopped = true;
                return 0;
            }
            return x % by;
        }

        int rises(int x) {
            begins(13);
            return reads(x) - rounds(x);
        }
    }

    private static final class Regular extends Rider {
        int sinks(int rush, int lamps, int others) {
            return lamps > 0 ? 0 : 1;
        }

        int drifts(int train) {
            return 1;
        }

        int stands(int x) {
            begins(20);
            return super.stands(x) ^ 14;
        }
    }

    private static class Lady extends Rider {
        int sinks(int rush, int lamps, int others) {
            return 2 * super.sinks(rush, lamps, others);
        }

        int drifts(int train) {
            return train % 2 == 0 ? 0 : 1;
        }

        int reads(int x) {
            begins(30);
            return super.reads(x) * 3;
        }
    }

    private static final class Father extends Lady {
        int sinks(int rush, int lamps, int others) {
            return super.sinks(rush, lamps, others) + 3;
        }

        int drifts(int train) {
            return 2 * super.drifts(train);
        }

        int stands(int x) {
            begins(50);
            return super.stands(x + 11);
        }

        int rises(int x) {
            begins(51);
            return super.rises(x) + reads(a);
        }
    }

    private static class Clerk extends Rider {
        int sinks(int rush, int lamps, int others) {
            return Math.max(0, super.sinks(rush, lamps, others) - lamps);
        }

        int drifts(int train) {
            return train % 2 == 0 ? 1 : 0;
        }

        int rounds(int x) {
            begins(40);
            return super.rounds(x) - 5;
        }
    }

    private static final class Barrier extends Clerk {
        int sinks(int rush, int lamps, int others) {
            return super.sinks(rush, lamps, others) / 2;
        }

        int drifts(int train) {
            return super.drifts(train) + (train > 7 ? 2 : 0);
        }

        int reads(int x) {
            begins(60);
            return 0 - super.reads(x);
        }

        int rounds(int x) {
            begins(61);
            return super.rounds(x) ^ stands(n);
        }
    }
}
