import java.util.ArrayList;
import java.util.Arrays;
import java.util.List;
import java.util.Random;

/**
 * Runs of 512 calls, the same for every start, answered by CargoTanks and by a slow model that
 * tries each rule of the document on each PLAN there is.
 */
public final class ModelTest {
    private static final int UNKNOWN = -1, OUTSIDE = -2, STATE = -3, FULL = -4, NONE = -9;
    private static final int RUNS = 240;
    private static final int CALLS = 512;

    private ModelTest() {
    }

    public static void main(String[] args) {
        int wrong = 0;
        int[] asked = new int[22];
        int[] accepted = new int[22];
        for (int run = 0; run < RUNS && wrong < 5; run++) {
            wrong += run(run, asked, accepted) ? 0 : 1;
        }
        for (int method = 1; method < 22; method++) {
            if (accepted[method] < RUNS) {
                wrong++;
                System.out.println("method " + method + ": only " + accepted[method] + " of "
                        + asked[method] + " calls were not refused: the runs test too little");
            }
        }
        System.out.println(wrong == 0 ? "all runs are as the model's" : wrong + " runs are wrong");
        if (wrong != 0) {
            System.exit(1);
        }
    }

    private static boolean run(int number, int[] asked, int[] accepted) {
        Caller caller = new Caller(number);
        for (int call = 0; call < CALLS; call++) {
            int[] a = caller.next(call);
            int want = onModel(caller.model, a);
            int got = onProgram(caller.program, a);
            asked[a[0]]++;
            accepted[a[0]] += want >= 0 || want == NONE ? 1 : 0;
            if (got != want) {
                System.out.println("run " + number + ", call " + call + ": "
                        + Arrays.toString(a) + " answered " + got + ", due is " + want);
                return false;
            }
        }
        return true;
    }

    private static int onProgram(CargoTanks x, int[] a) {
        return switch (a[0]) {
            case 1 -> x.tank(a[1], a[2], a[3]);
            case 2 -> x.neighbours(a[1], a[2], a[3] == 1);
            case 3 -> x.latest(a[1], a[2], a[3]);
            case 4 -> x.cargo(a[1], a[2], a[3], a[4], a[5], a[6]);
            case 5 -> x.uncargo();
            case 6 -> x.amount(a[1], a[2]);
            case 7 -> x.washes(a[1], a[2], a[3]);
            case 8 -> x.bound(a[1]);
            case 9 -> x.ofTank(a[1], a[2]);
            case 10 -> x.ofCargo(a[1], a[2]);
            case 11 -> x.needs(a[1], a[2]);
            case 12 -> x.why(a[1], a[2]);
            case 13 -> x.plan(a[1], a[2]);
            case 14 -> x.broken(a[1]);
            case 15 -> x.ofPlan(a[1]);
            case 16 -> x.best(a[1], a[2]);
            case 17 -> x.taken();
            case 18 -> x.load();
            case 19 -> x.unload(a[1]);
            case 20 -> x.pour(a[1], a[2], a[3]);
            default -> x.many(a[1]);
        };
    }

    private static int onModel(Model m, int[] a) {
        return switch (a[0]) {
            case 1 -> m.tank(a[1], a[2], a[3]);
            case 2 -> m.neighbours(a[1], a[2], a[3] == 1);
            case 3 -> m.latest(a[1], a[2], a[3]);
            case 4 -> m.cargo(Arrays.copyOfRange(a, 1, 7));
            case 5 -> m.uncargo();
            case 6 -> m.amount(a[1], a[2]);
            case 7 -> m.washes(a[1], a[2], a[3]);
            case 8 -> m.bound(a[1]);
            case 9 -> m.ofTank(a[1], a[2]);
            case 10 -> m.ofCargo(a[1], a[2]);
            case 11 -> m.needs(a[1], a[2]);
            case 12 -> m.why(a[1], a[2]);
            case 13 -> m.plan(a[1], a[2]);
            case 14 -> m.broken(a[1]);
            case 15 -> m.ofPlan(a[1]);
            case 16 -> m.best(a[1], a[2]);
            case 17 -> m.taken();
            case 18 -> m.load();
            case 19 -> m.unload(a[1]);
            case 20 -> m.pour(a[1], a[2], a[3]);
            default -> m.many(a[1]);
        };
    }

    /** Makes up calls: most of them fit the ship as it is, some do not. */
    private static final class Caller {
        private static final int[] WEIGHTS = {0, 2, 8, 14, 6, 3, 8, 10, 5, 30, 14, 8, 10, 24, 20, 10,
            60, 8, 10, 10, 40, 10};

        private final CargoTanks program = new CargoTanks();
        private final Model model = new Model();
        private final Random random;
        private final int tanksWanted;
        private final int cargoesWanted;
        private final int liquids;

        Caller(int number) {
            random = new Random(20261117L + number);
            boolean large = number % 12 == 0;
            tanksWanted = large ? 6 : 1 + random.nextInt(4);
            cargoesWanted = large ? 4 : 1 + random.nextInt(4);
            liquids = random.nextInt(4) == 0 ? 8 : 3;
        }

        int[] next(int call) {
            if (random.nextInt(40) == 0) {
                return wild();
            }
            if (call < tanksWanted * 2 && model.tanks.size() < tanksWanted) {
                return made(1);
            }
            if (call < 60 && model.cargoes.size() < cargoesWanted) {
                return made(4);
            }
            int sum = Arrays.stream(WEIGHTS).sum();
            int at = random.nextInt(sum);
            int method = 0;
            while (at >= WEIGHTS[method]) {
                at -= WEIGHTS[method];
                method++;
            }
            if (method == 1 && model.tanks.size() >= tanksWanted && tanksWanted < 6) {
                method = 2;
            }
            return made(method);
        }

        private int[] wild() {
            int[] odd = {-10, -9, -2, -1, 0, 1, 3, 4, 6, 7, 8, 10, 15, 16, 99, 100, 255, 256, 400,
                401, 9999, 10000, Integer.MIN_VALUE, Integer.MAX_VALUE};
            int[] a = new int[7];
            a[0] = 1 + random.nextInt(21);
            for (int k = 1; k < 7; k++) {
                a[k] = random.nextBoolean() ? odd[random.nextInt(odd.length)] : random.nextInt(4);
            }
            return a;
        }

        private int[] made(int method) {
            int t = random.nextInt(Math.max(1, model.tanks.size()));
            int u = random.nextInt(Math.max(1, model.tanks.size()));
            int c = random.nextInt(Math.max(1, model.cargoes.size()));
            int set = random.nextInt(1 << model.cargoes.size());
            boolean often = random.nextInt(4) > 0;
            return switch (method) {
                case 1 -> call(1, 1 + random.nextInt(30), random.nextInt(often ? 2 : 4),
                        random.nextInt(19) - 9);
                case 2 -> call(2, t, u, random.nextInt(2));
                case 3 -> call(3, t, random.nextInt(3), often ? liquid() : NONE);
                case 4 -> call(4, liquid(), 1 + random.nextInt(often ? 30 : 90),
                        often ? 15 : random.nextInt(16), few(), few(), few());
                case 6 -> call(6, c, 1 + random.nextInt(often ? 40 : 120));
                case 7 -> call(7, liquid(), liquid(), random.nextInt(4));
                case 8 -> call(8, random.nextInt(often ? 400 : 10000));
                case 9 -> call(9, t, random.nextInt(9));
                case 10 -> call(10, c, random.nextInt(8));
                case 11, 12 -> call(method, t, c);
                case 13 -> planned(t, c, often);
                case 14 -> call(14, random.nextBoolean() ? model.toldSet() : set);
                case 15 -> call(15, random.nextInt(3));
                case 16 -> call(16, set, bestWhat());
                case 19 -> call(19, c);
                case 20 -> call(20, t, u, 1 + random.nextInt(often ? 8 : 30));
                case 21 -> call(21, random.nextInt(5));
                default -> call(method);
            };
        }

        /** Now and then what BEST has, so that THE PLAN is RIGHT at times. */
        private int[] planned(int t, int c, boolean often) {
            if (often && !model.tanks.isEmpty()) {
                int full = (1 << model.cargoes.size()) - 1;
                int[] best = model.bestPlan(full);
                return call(13, t, best == null ? NONE : best[t]);
            }
            return call(13, t, random.nextBoolean() ? c : NONE);
        }

        private int bestWhat() {
            int group = random.nextInt(3);
            int t = random.nextInt(Math.max(1, model.tanks.size()));
            return group == 0 ? random.nextInt(4) : group * 10 + t;
        }

        private int liquid() {
            return random.nextInt(liquids);
        }

        private int few() {
            return random.nextInt(3) > 0 ? 0 : 1 << liquid();
        }

        private static int[] call(int... a) {
            return Arrays.copyOf(a, 7);
        }
    }

    private static final class ModelTank {
        int volume;
        int coat;
        int lever;
        List<Integer> latest = new ArrayList<>(List.of(NONE, NONE, NONE));
        int holds = NONE;
        int held = 0;
    }

    /** The document, word by word, without regard to time. */
    private static final class Model {
        final List<ModelTank> tanks = new ArrayList<>();
        final List<int[]> cargoes = new ArrayList<>();
        final boolean[][] beside = new boolean[6][6];
        final int[][] wash = new int[8][8];
        final int[] told = {NONE, NONE, NONE, NONE, NONE, NONE};
        int bound = 9999;
        int washed = 0;

        private static boolean in(int v, int least, int most) {
            return least <= v && v <= most;
        }

        private static boolean bit(int set, int k) {
            return k != NONE && (set & (1 << k)) != 0;
        }

        boolean noTank(int t) {
            return !in(t, 0, tanks.size() - 1);
        }

        boolean noCargo(int c) {
            return !in(c, 0, cargoes.size() - 1);
        }

        boolean noSet(int set) {
            return !in(set, 0, (1 << cargoes.size()) - 1);
        }

        boolean isHeld(int c) {
            return tanks.stream().anyMatch(x -> x.holds == c);
        }

        int tank(int volume, int coat, int lever) {
            if (!in(volume, 1, 99) || !in(coat, 0, 3) || !in(lever, -9, 9)) {
                return OUTSIDE;
            }
            if (tanks.size() == 6) {
                return FULL;
            }
            ModelTank x = new ModelTank();
            x.volume = volume;
            x.coat = coat;
            x.lever = lever;
            tanks.add(x);
            return tanks.size() - 1;
        }

        int neighbours(int i, int j, boolean is) {
            if (noTank(i) || noTank(j) || i == j) {
                return UNKNOWN;
            }
            int answer = beside[i][j] == is ? 0 : 1;
            beside[i][j] = is;
            beside[j][i] = is;
            return answer;
        }

        int latest(int t, int k, int liquid) {
            if (noTank(t)) {
                return UNKNOWN;
            }
            if (!in(k, 0, 2) || !(in(liquid, 0, 7) || liquid == NONE)) {
                return OUTSIDE;
            }
            return tanks.get(t).latest.set(k, liquid);
        }

        int cargo(int[] told) {
            if (!in(told[0], 0, 7)) {
                return UNKNOWN;
            }
            if (!in(told[1], 1, 400) || !in(told[2], 0, 15) || !in(told[3], 0, 255)
                    || !in(told[4], 0, 255) || !in(told[5], 0, 255)) {
                return OUTSIDE;
            }
            if (cargoes.size() == 4) {
                return FULL;
            }
            cargoes.add(told);
            return cargoes.size() - 1;
        }

        int uncargo() {
            int last = cargoes.size() - 1;
            if (cargoes.isEmpty() || isHeld(last)) {
                return STATE;
            }
            cargoes.remove(last);
            for (int t = 0; t < 6; t++) {
                told[t] = told[t] == last ? NONE : told[t];
            }
            return cargoes.size();
        }

        int amount(int c, int v) {
            if (noCargo(c)) {
                return UNKNOWN;
            }
            if (!in(v, 1, 400)) {
                return OUTSIDE;
            }
            if (isHeld(c)) {
                return STATE;
            }
            int was = cargoes.get(c)[1];
            cargoes.get(c)[1] = v;
            return was;
        }

        int washes(int from, int to, int v) {
            if (!in(from, 0, 7) || !in(to, 0, 7)) {
                return UNKNOWN;
            }
            if (!in(v, 0, 3)) {
                return OUTSIDE;
            }
            int was = wash[from][to];
            wash[from][to] = v;
            return was;
        }

        int bound(int v) {
            if (!in(v, 0, 9999)) {
                return OUTSIDE;
            }
            int was = bound;
            bound = v;
            return was;
        }

        int ofTank(int t, int what) {
            if (noTank(t)) {
                return UNKNOWN;
            }
            ModelTank x = tanks.get(t);
            int near = 0;
            for (int u = 0; u < 6; u++) {
                near += beside[t][u] ? 1 << u : 0;
            }
            int[] answers = {x.volume, x.coat, x.lever + 10, near, x.latest.get(0),
                x.latest.get(1), x.latest.get(2), x.holds, x.held};
            return in(what, 0, 8) ? answers[what] : OUTSIDE;
        }

        int ofCargo(int c, int what) {
            if (noCargo(c)) {
                return UNKNOWN;
            }
            if (!in(what, 0, 7)) {
                return OUTSIDE;
            }
            int suiting = 0;
            for (int t = 0; t < tanks.size(); t++) {
                suiting += why(t, c) == 0 ? 1 << t : 0;
            }
            int clashing = 0;
            for (int d = 0; d < cargoes.size(); d++) {
                clashing += clash(c, d) ? 1 << d : 0;
            }
            return what < 6 ? cargoes.get(c)[what] : what == 6 ? suiting : clashing;
        }

        boolean clash(int c, int d) {
            int[] one = cargoes.get(c);
            int[] other = cargoes.get(d);
            return bit(one[5], other[0]) || bit(other[5], one[0]);
        }

        int needs(int t, int c) {
            if (noTank(t) || noCargo(c)) {
                return UNKNOWN;
            }
            int last = tanks.get(t).latest.get(0);
            return last == NONE ? 0 : wash[last][cargoes.get(c)[0]];
        }

        int why(int t, int c) {
            if (noTank(t) || noCargo(c)) {
                return UNKNOWN;
            }
            ModelTank x = tanks.get(t);
            int[] y = cargoes.get(c);
            boolean never = x.latest.stream().anyMatch(liquid -> bit(y[4], liquid));
            return (bit(y[2], x.coat) ? 0 : 1) + (bit(y[3], x.latest.get(0)) ? 2 : 0)
                    + (never ? 4 : 0);
        }

        int plan(int t, int c) {
            if (noTank(t) || (c != NONE && noCargo(c))) {
                return UNKNOWN;
            }
            int was = told[t];
            told[t] = c;
            return was;
        }

        int toldSet() {
            int set = 0;
            for (int c : told) {
                set |= c == NONE ? 0 : 1 << c;
            }
            return set;
        }

        int[] stowed(int[] plan) {
            int[] in = new int[tanks.size()];
            for (int c = 0; c < cargoes.size(); c++) {
                int rest = cargoes.get(c)[1];
                for (int t = 0; t < tanks.size(); t++) {
                    while (plan[t] == c && rest > 0 && in[t] < tanks.get(t).volume) {
                        in[t]++;
                        rest--;
                    }
                }
            }
            return in;
        }

        int list(int[] plan) {
            int sum = 0;
            int[] in = stowed(plan);
            for (int t = 0; t < tanks.size(); t++) {
                sum += in[t] * tanks.get(t).lever;
            }
            return sum;
        }

        int cost(int[] plan) {
            int sum = 0;
            for (int t = 0; t < tanks.size(); t++) {
                sum += plan[t] == NONE ? 0 : needs(t, plan[t]);
            }
            return sum;
        }

        int tanksOf(int[] plan) {
            int count = 0;
            for (int t = 0; t < tanks.size(); t++) {
                count += plan[t] == NONE ? 0 : 1;
            }
            return count;
        }

        int rule(int[] plan, int set) {
            int count = tanks.size();
            for (int t = 0; t < count; t++) {
                if (plan[t] != NONE && !bit(set, plan[t])) {
                    return 1;
                }
            }
            for (int t = 0; t < count; t++) {
                if (plan[t] != NONE && why(t, plan[t]) != 0) {
                    return 2;
                }
            }
            for (int t = 0; t < count; t++) {
                for (int u = 0; u < count; u++) {
                    if (beside[t][u] && plan[t] != NONE && plan[u] != NONE
                            && clash(plan[t], plan[u])) {
                        return 3;
                    }
                }
            }
            return laterRule(plan, set);
        }

        int laterRule(int[] plan, int set) {
            for (int c = 0; c < cargoes.size(); c++) {
                int volumes = 0;
                for (int t = 0; t < tanks.size(); t++) {
                    volumes += plan[t] == c ? tanks.get(t).volume : 0;
                }
                if (bit(set, c) && volumes < cargoes.get(c)[1]) {
                    return 4;
                }
            }
            int[] in = stowed(plan);
            for (int t = 0; t < tanks.size(); t++) {
                if (plan[t] != NONE && in[t] == 0) {
                    return 5;
                }
            }
            return Math.abs(list(plan)) > bound ? 6 : 0;
        }

        int broken(int set) {
            return noSet(set) ? OUTSIDE : rule(told, set);
        }

        int ofPlan(int what) {
            return switch (what) {
                case 0 -> cost(told);
                case 1 -> tanksOf(told);
                case 2 -> list(told) + 100000;
                default -> OUTSIDE;
            };
        }

        List<int[]> rightPlans(int set) {
            List<int[]> found = new ArrayList<>();
            int choices = cargoes.size() + 1;
            int all = 1;
            for (int t = 0; t < tanks.size(); t++) {
                all *= choices;
            }
            int[] plan = new int[tanks.size()];
            for (int number = 0; number < all; number++) {
                int rest = number;
                for (int t = 0; t < plan.length; t++) {
                    plan[t] = rest % choices == 0 ? NONE : rest % choices - 1;
                    rest /= choices;
                }
                if (rule(plan, set) == 0) {
                    found.add(plan.clone());
                }
            }
            return found;
        }

        boolean isBetter(int[] one, int[] other) {
            if (cost(one) != cost(other)) {
                return cost(one) < cost(other);
            }
            if (tanksOf(one) != tanksOf(other)) {
                return tanksOf(one) < tanksOf(other);
            }
            for (int t = 0; t < one.length; t++) {
                if (one[t] != other[t]) {
                    return other[t] == NONE || (one[t] != NONE && one[t] < other[t]);
                }
            }
            return false;
        }

        int[] bestPlan(int set) {
            int[] best = null;
            for (int[] plan : rightPlans(set)) {
                best = best == null || isBetter(plan, best) ? plan : best;
            }
            return best;
        }

        int best(int set, int what) {
            int count = tanks.size();
            if (noSet(set) || !(in(what, 0, 3) || in(what, 10, 9 + count)
                    || in(what, 20, 19 + count))) {
                return OUTSIDE;
            }
            if (what == 3) {
                return rightPlans(set).size();
            }
            int[] plan = bestPlan(set);
            if (plan == null) {
                return NONE;
            }
            return switch (what) {
                case 0 -> cost(plan);
                case 1 -> tanksOf(plan);
                case 2 -> list(plan) + 100000;
                default -> what < 20 ? plan[what - 10] : stowed(plan)[what - 20];
            };
        }

        int amounts(int set) {
            int sum = 0;
            for (int c = 0; c < cargoes.size(); c++) {
                sum += bit(set, c) ? cargoes.get(c)[1] : 0;
            }
            return sum;
        }

        int taken() {
            int best = 0;
            for (int set = 0; set < 1 << cargoes.size(); set++) {
                boolean more = amounts(set) > amounts(best);
                boolean fewer = amounts(set) == amounts(best)
                        && Integer.bitCount(set) < Integer.bitCount(best);
                if ((more || fewer) && !rightPlans(set).isEmpty()) {
                    best = set;
                }
            }
            return best;
        }

        int load() {
            if (tanks.stream().anyMatch(x -> x.held > 0)) {
                return STATE;
            }
            int set = taken();
            if (set == 0) {
                return STATE;
            }
            int[] plan = bestPlan(set);
            int[] in = stowed(plan);
            int cost = cost(plan);
            for (int t = 0; t < plan.length; t++) {
                tanks.get(t).holds = plan[t];
                tanks.get(t).held = in[t];
            }
            washed += cost;
            return cost;
        }

        void empty(ModelTank x) {
            x.latest.add(0, cargoes.get(x.holds)[0]);
            x.latest.remove(3);
            x.holds = NONE;
            x.held = 0;
        }

        int unload(int c) {
            if (noCargo(c)) {
                return UNKNOWN;
            }
            int count = 0;
            for (ModelTank x : tanks) {
                if (x.holds == c) {
                    empty(x);
                    count++;
                }
            }
            return count == 0 ? STATE : count;
        }

        int pour(int from, int to, int v) {
            if (noTank(from) || noTank(to) || from == to) {
                return UNKNOWN;
            }
            if (!in(v, 1, 99)) {
                return OUTSIDE;
            }
            ModelTank a = tanks.get(from);
            ModelTank b = tanks.get(to);
            if (a.held < v || b.held + v > b.volume) {
                return STATE;
            }
            if (b.holds == NONE) {
                boolean near = false;
                for (int t = 0; t < tanks.size(); t++) {
                    int other = tanks.get(t).holds;
                    near |= beside[to][t] && other != NONE && clash(a.holds, other);
                }
                if (near || why(to, a.holds) != 0) {
                    return STATE;
                }
                washed += needs(to, a.holds);
            } else if (b.holds != a.holds) {
                return STATE;
            }
            b.holds = a.holds;
            b.held += v;
            a.held -= v;
            if (a.held == 0) {
                empty(a);
            }
            return b.held;
        }

        int many(int what) {
            int list = 0;
            int used = 0;
            for (ModelTank x : tanks) {
                list += x.held * x.lever;
                used += x.held > 0 ? 1 : 0;
            }
            int[] answers = {tanks.size(), cargoes.size(), used, washed, list + 100000};
            return in(what, 0, 4) ? answers[what] : OUTSIDE;
        }
    }
}
