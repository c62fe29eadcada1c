/**
 * Liquids for the tanks of a ship: what may go where, whether a plan is right, the plan of the
 * fewest washes, and what is loaded, unloaded and poured over at sea.
 */
public final class CargoTanks {
    public static final int UNKNOWN = -1, OUTSIDE = -2, STATE = -3, FULL = -4, NONE = -9;

    private static final int MOST_TANKS = 6;
    private static final int MOST_CARGOES = 4;
    private static final int LIQUIDS = 8;
    private static final int LATEST = 3;
    private static final int SETS = 1 << MOST_CARGOES;
    private static final int WIDEST_BOUND = 9999;

    /** Added to each LIST that is answered, so that none looks like a refusal. */
    private static final int LIST_BASE = 100000;
    private static final int LEVER_BASE = 10;

    /** Where best() begins to tell the CARGO of a TANK, and how much is in it. */
    private static final int BEST_CARGO = 10;
    private static final int BEST_FILL = 20;

    private static final int WRONG_COAT = 1;
    private static final int WRONG_BEHIND = 2;
    private static final int WRONG_NEVER = 4;

    private final Tank[] tanks = new Tank[MOST_TANKS];
    private final Cargo[] cargoes = new Cargo[MOST_CARGOES];
    private final int[] washTable = new int[LIQUIDS * LIQUIDS];
    private final Search search = new Search();

    /** THE PLAN, and the rows by which it is stowed. */
    private final int[] told = new int[MOST_TANKS];
    private final int[] toldFill = new int[MOST_TANKS];
    private final int[] toldLeft = new int[MOST_CARGOES];

    private int tankCount = 0;
    private int cargoCount = 0;
    private int listBound = WIDEST_BOUND;
    private int washesDone = 0;

    /** Whether what the search found still fits how all is. */
    private boolean searched = false;

    public CargoTanks() {
        for (int t = 0; t < MOST_TANKS; t++) {
            tanks[t] = new Tank();
            told[t] = NONE;
        }
        for (int c = 0; c < MOST_CARGOES; c++) {
            cargoes[c] = new Cargo();
        }
    }

    // ---- 1 tanks, cargoes

    public int tank(int volume, int coat, int lever) {
        if (!within(volume, 1, 99) || !within(coat, 0, 3) || !within(lever, -9, 9)) {
            return OUTSIDE;
        }
        if (tankCount >= MOST_TANKS) {
            return FULL;
        }
        int number = tankCount;
        Tank made = tanks[number];
        made.volume = volume;
        made.coat = coat;
        made.lever = lever;
        tankCount = number + 1;
        searched = false;
        return number;
    }

    public int neighbours(int i, int j, boolean is) {
        if (!areTwoTanks(i, j)) {
            return UNKNOWN;
        }
        if (has(tanks[i].beside, j) == is) {
            return 0;
        }
        tanks[i].beside ^= 1 << j;
        tanks[j].beside ^= 1 << i;
        searched = false;
        return 1;
    }

    public int latest(int t, int k, int liquid) {
        if (!isTank(t)) {
            return UNKNOWN;
        }
        if (!within(k, 0, LATEST - 1) || (liquid != NONE && !isLiquid(liquid))) {
            return OUTSIDE;
        }
        int was = tanks[t].latest[k];
        tanks[t].latest[k] = liquid;
        searched = false;
        return was;
    }

    public int cargo(int liquid, int amount, int coats, int behind, int never, int near) {
        if (!isLiquid(liquid)) {
            return UNKNOWN;
        }
        if (!isAmount(amount) || !within(coats, 0, 15) || !isLiquidSet(behind)
                || !isLiquidSet(never) || !isLiquidSet(near)) {
            return OUTSIDE;
        }
        if (cargoCount >= MOST_CARGOES) {
            return FULL;
        }
        int number = cargoCount;
        Cargo made = cargoes[number];
        made.liquid = liquid;
        made.amount = amount;
        made.coats = coats;
        made.behind = behind;
        made.never = never;
        made.near = near;
        cargoCount = number + 1;
        searched = false;
        return number;
    }

    public int uncargo() {
        int last = cargoCount - 1;
        if (last < 0 || tanksThatHold(last) > 0) {
            return STATE;
        }
        for (int t = 0; t < MOST_TANKS; t++) {
            if (told[t] == last) {
                told[t] = NONE;
            }
        }
        cargoCount = last;
        searched = false;
        return last;
    }

    public int amount(int c, int v) {
        if (!isCargo(c)) {
            return UNKNOWN;
        }
        if (!isAmount(v)) {
            return OUTSIDE;
        }
        if (tanksThatHold(c) > 0) {
            return STATE;
        }
        int was = cargoes[c].amount;
        cargoes[c].amount = v;
        searched = false;
        return was;
    }

    public int washes(int from, int to, int v) {
        if (!isLiquid(from) || !isLiquid(to)) {
            return UNKNOWN;
        }
        if (!within(v, 0, 3)) {
            return OUTSIDE;
        }
        int place = from * LIQUIDS + to;
        int was = washTable[place];
        washTable[place] = v;
        searched = false;
        return was;
    }

    public int bound(int v) {
        if (!within(v, 0, WIDEST_BOUND)) {
            return OUTSIDE;
        }
        int was = listBound;
        listBound = v;
        searched = false;
        return was;
    }

    public int ofTank(int t, int what) {
        if (!isTank(t)) {
            return UNKNOWN;
        }
        Tank asked = tanks[t];
        switch (what) {
            case 0: return asked.volume;
            case 1: return asked.coat;
            case 2: return asked.lever + LEVER_BASE;
            case 3: return asked.beside;
            case 4: return asked.latest[0];
            case 5: return asked.latest[1];
            case 6: return asked.latest[2];
            case 7: return asked.holds;
            case 8: return asked.held;
            default: return OUTSIDE;
        }
    }

    public int ofCargo(int c, int what) {
        if (!isCargo(c)) {
            return UNKNOWN;
        }
        Cargo asked = cargoes[c];
        switch (what) {
            case 0: return asked.liquid;
            case 1: return asked.amount;
            case 2: return asked.coats;
            case 3: return asked.behind;
            case 4: return asked.never;
            case 5: return asked.near;
            case 6: return tanksThatSuit(asked);
            case 7: return cargoesThatClash(asked);
            default: return OUTSIDE;
        }
    }

    public int needs(int t, int c) {
        if (!isTank(t) || !isCargo(c)) {
            return UNKNOWN;
        }
        return washesNeeded(tanks[t], cargoes[c]);
    }

    public int why(int t, int c) {
        if (!isTank(t) || !isCargo(c)) {
            return UNKNOWN;
        }
        return faults(tanks[t], cargoes[c]);
    }

    // ---- 2 plans: one that is told by hand; the best

    public int plan(int t, int c) {
        if (!isTank(t) || (c != NONE && !isCargo(c))) {
            return UNKNOWN;
        }
        int was = told[t];
        told[t] = c;
        return was;
    }

    public int broken(int set) {
        if (!isCargoSet(set)) {
            return OUTSIDE;
        }
        if (toldGoesBeyond(set)) {
            return 1;
        }
        if (toldDoesNotSuit()) {
            return 2;
        }
        if (toldClashes()) {
            return 3;
        }
        stowTold();
        if (toldLeavesSomeOf(set)) {
            return 4;
        }
        if (toldLeavesTankEmpty()) {
            return 5;
        }
        return Math.abs(toldList()) > listBound ? 6 : 0;
    }

    public int ofPlan(int what) {
        switch (what) {
            case 0: return toldCost();
            case 1: return toldTanks();
            case 2:
                stowTold();
                return toldList() + LIST_BASE;
            default: return OUTSIDE;
        }
    }

    public int best(int set, int what) {
        boolean ofOneTank = isTank(what - BEST_CARGO) || isTank(what - BEST_FILL);
        if (!isCargoSet(set) || !(within(what, 0, 3) || ofOneTank)) {
            return OUTSIDE;
        }
        searchIfStale();
        if (what == 3) {
            return search.right[set];
        }
        if (search.right[set] == 0) {
            return NONE;
        }
        if (isTank(what - BEST_FILL)) {
            return search.bestFill[set * MOST_TANKS + what - BEST_FILL];
        }
        if (isTank(what - BEST_CARGO)) {
            return search.bestRow[set * MOST_TANKS + what - BEST_CARGO];
        }
        switch (what) {
            case 0: return search.bestCost[set];
            case 1: return search.bestTanks[set];
            default: return search.bestList[set] + LIST_BASE;
        }
    }

    public int taken() {
        return takenSet();
    }

    // ---- 3 at sea

    public int load() {
        if (tanksInUse() > 0) {
            return STATE;
        }
        int set = takenSet();
        if (set == 0) {
            return STATE;
        }
        for (int t = 0; t < tankCount; t++) {
            tanks[t].holds = search.bestRow[set * MOST_TANKS + t];
            tanks[t].held = search.bestFill[set * MOST_TANKS + t];
        }
        washesDone += search.bestCost[set];
        return search.bestCost[set];
    }

    public int unload(int c) {
        if (!isCargo(c)) {
            return UNKNOWN;
        }
        int emptied = 0;
        for (int t = 0; t < tankCount; t++) {
            if (tanks[t].holds == c) {
                tanks[t].leaveEmpty(cargoes[c].liquid);
                emptied++;
            }
        }
        if (emptied == 0) {
            return STATE;
        }
        searched = false;
        return emptied;
    }

    public int pour(int from, int to, int v) {
        if (!areTwoTanks(from, to)) {
            return UNKNOWN;
        }
        if (!within(v, 1, 99)) {
            return OUTSIDE;
        }
        Tank source = tanks[from];
        Tank target = tanks[to];
        int c = source.holds;
        if (source.held < v || target.volume - target.held < v || !isCargo(c)) {
            return STATE;
        }
        if (target.holds != c) {
            if (!mayComeInto(target, cargoes[c])) {
                return STATE;
            }
            washesDone += washesNeeded(target, cargoes[c]);
            target.holds = c;
        }
        target.held += v;
        source.held -= v;
        if (source.held == 0) {
            source.leaveEmpty(cargoes[c].liquid);
            searched = false;
        }
        return target.held;
    }

    public int many(int what) {
        switch (what) {
            case 0: return tankCount;
            case 1: return cargoCount;
            case 2: return tanksInUse();
            case 3: return washesDone;
            case 4: return heldList() + LIST_BASE;
            default: return OUTSIDE;
        }
    }

    // ---- what numbers are as told

    private static boolean within(int v, int least, int most) {
        return v >= least && v <= most;
    }

    private static boolean isLiquid(int liquid) {
        return within(liquid, 0, LIQUIDS - 1);
    }

    private static boolean isLiquidSet(int set) {
        return within(set, 0, (1 << LIQUIDS) - 1);
    }

    private static boolean isAmount(int v) {
        return within(v, 1, 400);
    }

    private boolean isTank(int t) {
        return t >= 0 && t < tankCount;
    }

    private boolean areTwoTanks(int i, int j) {
        return isTank(i) && isTank(j) && i != j;
    }

    private boolean isCargo(int c) {
        return c >= 0 && c < cargoCount;
    }

    private boolean isCargoSet(int set) {
        return set >= 0 && set < 1 << cargoCount;
    }

    /** NONE is in no set. */
    private static boolean has(int set, int k) {
        return k >= 0 && (set >> k & 1) != 0;
    }

    // ---- tanks and cargoes as they are

    private int faults(Tank tank, Cargo cargo) {
        int found = has(cargo.coats, tank.coat) ? 0 : WRONG_COAT;
        if (has(cargo.behind, tank.latest[0])) {
            found |= WRONG_BEHIND;
        }
        for (int k = 0; k < LATEST; k++) {
            if (has(cargo.never, tank.latest[k])) {
                found |= WRONG_NEVER;
            }
        }
        return found;
    }

    private int washesNeeded(Tank tank, Cargo cargo) {
        int last = tank.latest[0];
        return isLiquid(last) ? washTable[last * LIQUIDS + cargo.liquid] : 0;
    }

    private static boolean clash(Cargo one, Cargo other) {
        return has(other.near, one.liquid) || has(one.near, other.liquid);
    }

    private int tanksThatSuit(Cargo cargo) {
        int set = 0;
        for (int t = 0; t < tankCount; t++) {
            if (faults(tanks[t], cargo) == 0) {
                set |= 1 << t;
            }
        }
        return set;
    }

    private int cargoesThatClash(Cargo cargo) {
        int set = 0;
        for (int c = 0; c < cargoCount; c++) {
            if (clash(cargo, cargoes[c])) {
                set |= 1 << c;
            }
        }
        return set;
    }

    private int tanksThatHold(int c) {
        int count = 0;
        for (int t = 0; t < tankCount; t++) {
            if (tanks[t].holds == c) {
                count++;
            }
        }
        return count;
    }

    private int tanksInUse() {
        return tankCount - tanksThatHold(NONE);
    }

    private int heldList() {
        int list = 0;
        for (int t = 0; t < tankCount; t++) {
            list += tanks[t].held * tanks[t].lever;
        }
        return list;
    }

    private boolean mayComeInto(Tank target, Cargo cargo) {
        if (target.holds != NONE || faults(target, cargo) != 0) {
            return false;
        }
        for (int t = 0; t < tankCount; t++) {
            int c = tanks[t].holds;
            if (has(target.beside, t) && isCargo(c) && clash(cargo, cargoes[c])) {
                return false;
            }
        }
        return true;
    }

    // ---- THE PLAN

    private boolean toldGoesBeyond(int set) {
        for (int t = 0; t < tankCount; t++) {
            if (told[t] != NONE && !has(set, told[t])) {
                return true;
            }
        }
        return false;
    }

    private boolean toldDoesNotSuit() {
        for (int t = 0; t < tankCount; t++) {
            int c = told[t];
            if (isCargo(c) && faults(tanks[t], cargoes[c]) != 0) {
                return true;
            }
        }
        return false;
    }

    private boolean toldClashes() {
        for (int t = 0; t < tankCount; t++) {
            for (int u = 0; u < t; u++) {
                int c = told[t];
                int d = told[u];
                if (has(tanks[t].beside, u) && isCargo(c) && isCargo(d)
                        && clash(cargoes[c], cargoes[d])) {
                    return true;
                }
            }
        }
        return false;
    }

    private void stowTold() {
        for (int c = 0; c < cargoCount; c++) {
            toldLeft[c] = cargoes[c].amount;
        }
        for (int t = 0; t < tankCount; t++) {
            int c = told[t];
            toldFill[t] = 0;
            if (isCargo(c)) {
                toldFill[t] = Math.min(tanks[t].volume, toldLeft[c]);
                toldLeft[c] -= toldFill[t];
            }
        }
    }

    private boolean toldLeavesSomeOf(int set) {
        for (int c = 0; c < cargoCount; c++) {
            if (has(set, c) && toldLeft[c] > 0) {
                return true;
            }
        }
        return false;
    }

    private boolean toldLeavesTankEmpty() {
        for (int t = 0; t < tankCount; t++) {
            if (told[t] != NONE && toldFill[t] == 0) {
                return true;
            }
        }
        return false;
    }

    private int toldList() {
        int list = 0;
        for (int t = 0; t < tankCount; t++) {
            list += toldFill[t] * tanks[t].lever;
        }
        return list;
    }

    private int toldCost() {
        int cost = 0;
        for (int t = 0; t < tankCount; t++) {
            int c = told[t];
            if (isCargo(c)) {
                cost += washesNeeded(tanks[t], cargoes[c]);
            }
        }
        return cost;
    }

    private int toldTanks() {
        int count = 0;
        for (int t = 0; t < tankCount; t++) {
            if (told[t] != NONE) {
                count++;
            }
        }
        return count;
    }

    // ---- BEST and TAKEN

    private int takenSet() {
        searchIfStale();
        int best = 0;
        int most = 0;
        int sets = 1 << cargoCount;
        for (int set = 1; set < sets; set++) {
            int amounts = amountsOf(set);
            boolean fewer = Integer.bitCount(set) < Integer.bitCount(best);
            if (search.right[set] > 0 && (amounts > most || (amounts == most && fewer))) {
                best = set;
                most = amounts;
            }
        }
        return best;
    }

    private int amountsOf(int set) {
        int sum = 0;
        for (int c = 0; c < cargoCount; c++) {
            if (has(set, c)) {
                sum += cargoes[c].amount;
            }
        }
        return sum;
    }

    private void searchIfStale() {
        if (searched) {
            return;
        }
        for (int set = 0; set < SETS; set++) {
            search.right[set] = 0;
        }
        noteCargoes();
        noteTanks();
        tryTank(search, 0, 0, 0);
        searched = true;
    }

    private void noteCargoes() {
        search.cargoCount = cargoCount;
        for (int c = 0; c < cargoCount; c++) {
            search.amount[c] = cargoes[c].amount;
            search.left[c] = cargoes[c].amount;
            search.clashing[c] = cargoesThatClash(cargoes[c]);
        }
    }

    private void noteTanks() {
        search.tankCount = tankCount;
        search.listBound = listBound;
        int room = 0;
        for (int t = tankCount - 1; t >= 0; t--) {
            Tank noted = tanks[t];
            room += noted.volume;
            search.roomFrom[t] = room;
            search.volume[t] = noted.volume;
            search.lever[t] = noted.lever;
            search.beside[t] = noted.beside;
            search.suiting[t] = 0;
            for (int c = 0; c < cargoCount; c++) {
                search.needed[t * MOST_CARGOES + c] = washesNeeded(noted, cargoes[c]);
                if (faults(noted, cargoes[c]) == 0) {
                    search.suiting[t] |= 1 << c;
                }
            }
        }
    }

    /**
     * Goes through every PLAN whose rows up to t stand. A PLAN can be RIGHT for one set alone,
     * that of the CARGOES it has, so that one search serves all sets. "owed" is what is still to
     * be put away of CARGOES that have been begun.
     */
    private static void tryTank(Search s, int t, int set, int owed) {
        if (t >= s.tankCount) {
            if (owed == 0) {
                s.keepIfBetter(set);
            }
            return;
        }
        if (owed > s.roomFrom[t]) {
            return;
        }
        int open = s.openTo(t);
        for (int c = 0; c < s.cargoCount; c++) {
            if (has(open, c) && s.left[c] > 0) {
                int poured = Math.min(s.volume[t], s.left[c]);
                int begun = has(set, c) ? 0 : s.amount[c];
                s.row[t] = c;
                s.fill[t] = poured;
                s.left[c] -= poured;
                tryTank(s, t + 1, set | 1 << c, owed + begun - poured);
                s.left[c] += poured;
            }
        }
        // NONE comes last, as the greatest: so PLANS come in the order of their rows
        s.row[t] = NONE;
        s.fill[t] = 0;
        tryTank(s, t + 1, set, owed);
    }

    private static final class Tank {
        private int volume = 0;
        private int coat = 0;
        private int lever = 0;
        private int beside = 0;
        private final int[] latest = {NONE, NONE, NONE};
        private int holds = NONE;
        private int held = 0;

        private void leaveEmpty(int liquid) {
            holds = NONE;
            held = 0;
            latest[2] = latest[1];
            latest[1] = latest[0];
            latest[0] = liquid;
        }
    }

    private static final class Cargo {
        private int liquid = 0;
        private int amount = 0;
        private int coats = 0;
        private int behind = 0;
        private int never = 0;
        private int near = 0;
    }

    /** What a search reads, the PLAN it is at, and what it has found for each set. */
    private static final class Search {
        private int tankCount = 0;
        private int cargoCount = 0;
        private int listBound = 0;
        private final int[] volume = new int[MOST_TANKS];
        private final int[] lever = new int[MOST_TANKS];
        private final int[] beside = new int[MOST_TANKS];
        private final int[] roomFrom = new int[MOST_TANKS];
        private final int[] suiting = new int[MOST_TANKS];
        private final int[] needed = new int[MOST_TANKS * MOST_CARGOES];
        private final int[] amount = new int[MOST_CARGOES];
        private final int[] clashing = new int[MOST_CARGOES];

        private final int[] left = new int[MOST_CARGOES];
        private final int[] row = new int[MOST_TANKS];
        private final int[] fill = new int[MOST_TANKS];

        private final int[] right = new int[SETS];
        private final int[] bestCost = new int[SETS];
        private final int[] bestTanks = new int[SETS];
        private final int[] bestList = new int[SETS];
        private final int[] bestRow = new int[SETS * MOST_TANKS];
        private final int[] bestFill = new int[SETS * MOST_TANKS];

        /** CARGOES that suit TANK t and clash with none in the NEIGHBOURS ahead of it. */
        private int openTo(int t) {
            int open = suiting[t];
            for (int u = 0; u < t; u++) {
                if (has(beside[t], u) && row[u] != NONE) {
                    open &= ~clashing[row[u]];
                }
            }
            return open;
        }

        private void keepIfBetter(int set) {
            int list = 0;
            int cost = 0;
            int used = 0;
            for (int t = 0; t < tankCount; t++) {
                if (row[t] != NONE) {
                    list += fill[t] * lever[t];
                    cost += needed[t * MOST_CARGOES + row[t]];
                    used++;
                }
            }
            if (Math.abs(list) > listBound) {
                return;
            }
            right[set]++;
            boolean less = cost < bestCost[set] || (cost == bestCost[set] && used < bestTanks[set]);
            if (right[set] == 1 || less) {
                bestCost[set] = cost;
                bestTanks[set] = used;
                bestList[set] = list;
                for (int t = 0; t < tankCount; t++) {
                    bestRow[set * MOST_TANKS + t] = row[t];
                    bestFill[set * MOST_TANKS + t] = fill[t];
                }
            }
        }
    }
}
