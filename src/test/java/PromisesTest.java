/** Each promise of the document by hand: ordinary inputs, the edges it names, wrong inputs. */
public final class PromisesTest {
    private static final int UNKNOWN = -1, OUTSIDE = -2, STATE = -3, FULL = -4, NONE = -9;
    private static final int LEAST = Integer.MIN_VALUE, MOST = Integer.MAX_VALUE;

    private static int wrong = 0;

    private PromisesTest() {
    }

    private static void due(int promise, String what, int got, int want) {
        if (got != want) {
            wrong++;
            System.out.println("promise " + promise + ": " + what + " answered " + got
                    + ", due is " + want);
        }
    }

    /** A ship of tanks of one volume, coat 0 and no lever. */
    private static CargoTanks ship(int tanks, int volume) {
        CargoTanks x = new CargoTanks();
        for (int t = 0; t < tanks; t++) {
            x.tank(volume, 0, 0);
        }
        return x;
    }

    /** A cargo that bears all coats and minds no liquid. */
    private static int easy(CargoTanks x, int liquid, int amount) {
        return x.cargo(liquid, amount, 15, 0, 0, 0);
    }

    public static void main(String[] args) {
        constants();
        newObject();
        tank();
        neighbours();
        latest();
        cargo();
        uncargo();
        amount();
        washes();
        bound();
        ofTank();
        ofCargo();
        ofCargoFollowsChanges();
        needs();
        why();
        plan();
        brokenInOrder();
        brokenEdges();
        ofPlan();
        bestRefusals();
        bestOrder();
        bestFillsByNumber();
        bestCountsPlans();
        bestFollowsChanges();
        taken();
        load();
        unload();
        pourRefusals();
        pourSameCargo();
        pourIntoEmpty();
        pourClash();
        many();
        fullShip();
        System.out.println(wrong == 0 ? "all promises hold" : wrong + " answers are not as due");
        if (wrong != 0) {
            System.exit(1);
        }
    }

    private static void constants() {
        due(0, "UNKNOWN", CargoTanks.UNKNOWN, UNKNOWN);
        due(0, "OUTSIDE", CargoTanks.OUTSIDE, OUTSIDE);
        due(0, "STATE", CargoTanks.STATE, STATE);
        due(0, "FULL", CargoTanks.FULL, FULL);
        due(0, "NONE", CargoTanks.NONE, NONE);
    }

    private static void newObject() {
        CargoTanks x = new CargoTanks();
        due(1, "tanks", x.many(0), 0);
        due(1, "cargoes", x.many(1), 0);
        due(1, "tanks in use", x.many(2), 0);
        due(1, "washes done", x.many(3), 0);
        due(1, "list", x.many(4), 100000);
        due(1, "first tank", x.ofTank(0, 0), UNKNOWN);
        due(1, "first cargo", x.ofCargo(0, 0), UNKNOWN);
        due(1, "bound at first", x.bound(0), 9999);
        due(1, "taken", x.taken(), 0);
        due(1, "one plan for no tanks, asked first", new CargoTanks().best(0, 3), 1);
        CargoTanks other = new CargoTanks();
        x.tank(1, 0, 0);
        due(1, "tanks of another object", other.many(0), 0);
    }

    private static void tank() {
        CargoTanks x = new CargoTanks();
        int[][] bad = {{0, 0, 0}, {100, 0, 0}, {-1, 0, 0}, {LEAST, 0, 0}, {MOST, 0, 0},
            {1, -1, 0}, {1, 4, 0}, {1, MOST, 0}, {1, 0, -10}, {1, 0, 10}, {1, 0, LEAST}};
        for (int[] b : bad) {
            due(2, "bad tank", x.tank(b[0], b[1], b[2]), OUTSIDE);
        }
        due(2, "none came", x.many(0), 0);
        due(2, "least tank", x.tank(1, 0, -9), 0);
        due(2, "greatest tank", x.tank(99, 3, 9), 1);
        due(2, "least volume", x.ofTank(0, 0), 1);
        due(2, "least lever", x.ofTank(0, 2), 1);
        due(2, "greatest volume", x.ofTank(1, 0), 99);
        due(2, "greatest coat", x.ofTank(1, 1), 3);
        due(2, "greatest lever", x.ofTank(1, 2), 19);
        for (int t = 2; t < 6; t++) {
            due(2, "next tank", x.tank(5, 1, 0), t);
        }
        due(2, "seventh tank", x.tank(5, 1, 0), FULL);
        due(2, "seventh tank, bad too", x.tank(0, 1, 0), OUTSIDE);
        due(2, "six stay", x.many(0), 6);
    }

    private static void neighbours() {
        CargoTanks x = ship(3, 10);
        int[][] bad = {{0, 3}, {3, 0}, {-1, 0}, {0, -1}, {1, 1}, {NONE, 0}, {LEAST, MOST}};
        for (int[] b : bad) {
            due(3, "bad pair", x.neighbours(b[0], b[1], true), UNKNOWN);
            due(3, "bad pair", x.neighbours(b[0], b[1], false), UNKNOWN);
        }
        due(3, "they were none", x.neighbours(0, 2, false), 0);
        due(3, "they become", x.neighbours(0, 2, true), 1);
        due(3, "so it was", x.neighbours(0, 2, true), 0);
        due(3, "so it was the other way about", x.neighbours(2, 0, true), 0);
        due(3, "of 0", x.ofTank(0, 3), 4);
        due(3, "of 1", x.ofTank(1, 3), 0);
        due(3, "of 2", x.ofTank(2, 3), 1);
        x.neighbours(1, 0, true);
        due(3, "of 0, two", x.ofTank(0, 3), 6);
        due(3, "no more", x.neighbours(2, 0, false), 1);
        due(3, "no more: so it was", x.neighbours(0, 2, false), 0);
        due(3, "of 0, one", x.ofTank(0, 3), 2);
        due(3, "of 2, none", x.ofTank(2, 3), 0);
    }

    private static void latest() {
        CargoTanks x = ship(2, 10);
        due(4, "no tank", x.latest(2, 0, 0), UNKNOWN);
        due(4, "no tank, bad too", x.latest(-1, 9, 9), UNKNOWN);
        int[][] bad = {{-1, 0}, {3, 0}, {0, -1}, {0, 8}, {0, -8}, {0, -10}, {MOST, 0}, {0, LEAST}};
        for (int[] b : bad) {
            due(4, "bad latest", x.latest(1, b[0], b[1]), OUTSIDE);
        }
        for (int k = 0; k < 3; k++) {
            due(4, "none at first", x.latest(1, k, k + 5), NONE);
        }
        for (int k = 0; k < 3; k++) {
            due(4, "stands", x.ofTank(1, 4 + k), k + 5);
            due(4, "other tank", x.ofTank(0, 4 + k), NONE);
        }
        due(4, "what it was", x.latest(1, 1, NONE), 6);
        due(4, "what it was, none", x.latest(1, 1, 0), NONE);
        due(4, "others stay, last", x.ofTank(1, 4), 5);
        due(4, "others stay, third", x.ofTank(1, 6), 7);
    }

    private static void cargo() {
        CargoTanks x = new CargoTanks();
        due(5, "liquid 8", x.cargo(8, 1, 1, 0, 0, 0), UNKNOWN);
        due(5, "liquid -1", x.cargo(-1, 1, 1, 0, 0, 0), UNKNOWN);
        due(5, "liquid none", x.cargo(NONE, 0, 99, 0, 0, 0), UNKNOWN);
        int[][] bad = {{0, 1, 0, 0, 0}, {401, 1, 0, 0, 0}, {LEAST, 1, 0, 0, 0},
            {1, -1, 0, 0, 0}, {1, 16, 0, 0, 0}, {1, 1, -1, 0, 0}, {1, 1, 256, 0, 0},
            {1, 1, 0, -1, 0}, {1, 1, 0, 256, 0}, {1, 1, 0, 0, -1}, {1, 1, 0, 0, 256},
            {1, 1, 0, 0, MOST}};
        for (int[] b : bad) {
            due(5, "bad cargo", x.cargo(0, b[0], b[1], b[2], b[3], b[4]), OUTSIDE);
        }
        due(5, "none came", x.many(1), 0);
        due(5, "least", x.cargo(0, 1, 0, 0, 0, 0), 0);
        due(5, "greatest", x.cargo(7, 400, 15, 255, 255, 255), 1);
        due(5, "third", x.cargo(1, 2, 3, 4, 5, 6), 2);
        due(5, "fourth", x.cargo(1, 2, 3, 4, 5, 6), 3);
        due(5, "fifth", x.cargo(1, 2, 3, 4, 5, 6), FULL);
        due(5, "fifth, bad amount", x.cargo(1, 0, 3, 4, 5, 6), OUTSIDE);
        due(5, "fifth, bad liquid", x.cargo(8, 0, 3, 4, 5, 6), UNKNOWN);
        due(5, "four stay", x.many(1), 4);
    }

    private static void uncargo() {
        CargoTanks x = ship(3, 10);
        due(6, "there is none", x.uncargo(), STATE);
        easy(x, 0, 10);
        easy(x, 1, 10);
        x.plan(0, 1);
        x.plan(1, 0);
        x.plan(2, 1);
        due(6, "one is left", x.uncargo(), 1);
        due(6, "it is no more", x.ofCargo(1, 0), UNKNOWN);
        due(6, "plan of 0", x.plan(0, NONE), NONE);
        due(6, "plan of 1", x.plan(1, 0), 0);
        due(6, "plan of 2", x.plan(2, NONE), NONE);
        due(6, "a new one takes its number", x.cargo(5, 20, 1, 2, 3, 4), 1);
        due(6, "with its own liquid", x.ofCargo(1, 0), 5);
        due(6, "with its own amount", x.ofCargo(1, 1), 20);
        due(6, "both are taken", x.load(), 0);
        due(6, "some tank holds it", x.uncargo(), STATE);
        due(6, "it is still there", x.many(1), 2);
        x.unload(1);
        due(6, "no tank holds it now", x.uncargo(), 1);
        due(6, "the first one is held", x.uncargo(), STATE);
        x.unload(0);
        due(6, "none is left", x.uncargo(), 0);
    }

    private static void amount() {
        CargoTanks x = ship(2, 10);
        due(7, "no cargo", x.amount(0, 5), UNKNOWN);
        easy(x, 0, 10);
        easy(x, 1, 300);
        due(7, "no cargo, bad too", x.amount(2, 0), UNKNOWN);
        due(7, "0", x.amount(0, 0), OUTSIDE);
        due(7, "401", x.amount(0, 401), OUTSIDE);
        due(7, "-1", x.amount(0, -1), OUTSIDE);
        due(7, "1", x.amount(0, 1), 10);
        due(7, "400", x.amount(0, 400), 1);
        due(7, "7", x.amount(0, 7), 400);
        due(7, "it stands", x.ofCargo(0, 1), 7);
        due(7, "the other one stays", x.ofCargo(1, 1), 300);
        x.load();
        due(7, "held", x.amount(0, 8), STATE);
        due(7, "held, bad too", x.amount(0, 401), OUTSIDE);
        due(7, "the other one is not held", x.amount(1, 200), 300);
        due(7, "it did not change", x.ofCargo(0, 1), 7);
        x.unload(0);
        due(7, "held no more", x.amount(0, 8), 7);
    }

    private static void washes() {
        CargoTanks x = new CargoTanks();
        int[][] bad = {{8, 0}, {0, 8}, {-1, 0}, {0, -1}, {NONE, 0}, {0, NONE}, {MOST, LEAST}};
        for (int[] b : bad) {
            due(8, "bad liquids", x.washes(b[0], b[1], 9), UNKNOWN);
        }
        due(8, "4", x.washes(0, 0, 4), OUTSIDE);
        due(8, "-1", x.washes(0, 0, -1), OUTSIDE);
        for (int from = 0; from < 8; from++) {
            for (int to = 0; to < 8; to++) {
                due(8, "0 at first", x.washes(from, to, (from * 3 + to) % 4), 0);
            }
        }
        for (int from = 0; from < 8; from++) {
            for (int to = 0; to < 8; to++) {
                due(8, "what they were", x.washes(from, to, 0), (from * 3 + to) % 4);
            }
        }
    }

    private static void bound() {
        CargoTanks x = new CargoTanks();
        due(9, "-1", x.bound(-1), OUTSIDE);
        due(9, "10000", x.bound(10000), OUTSIDE);
        due(9, "least", x.bound(LEAST), OUTSIDE);
        due(9, "0", x.bound(0), 9999);
        due(9, "9999", x.bound(9999), 0);
        due(9, "12", x.bound(12), 9999);
        due(9, "what it was", x.bound(12), 12);
    }

    private static void ofTank() {
        CargoTanks x = new CargoTanks();
        x.tank(9, 0, 0);
        x.tank(40, 2, -7);
        x.tank(8, 3, 5);
        x.neighbours(1, 0, true);
        x.neighbours(1, 2, true);
        x.latest(1, 0, 3);
        x.latest(1, 2, 6);
        due(10, "no tank", x.ofTank(3, 0), UNKNOWN);
        due(10, "no tank, bad too", x.ofTank(-1, 99), UNKNOWN);
        due(10, "9", x.ofTank(1, 9), OUTSIDE);
        due(10, "-1", x.ofTank(1, -1), OUTSIDE);
        int[] want = {40, 2, 3, 5, 3, NONE, 6, NONE, 0};
        for (int what = 0; what < 9; what++) {
            due(10, "what " + what, x.ofTank(1, what), want[what]);
        }
        x.cargo(4, 33, 4, 0, 0, 0);
        due(10, "loaded", x.load(), 0);
        due(10, "the cargo", x.ofTank(1, 7), 0);
        due(10, "how much", x.ofTank(1, 8), 33);
        due(10, "an empty one", x.ofTank(0, 7), NONE);
        due(10, "nothing in it", x.ofTank(0, 8), 0);
        due(10, "latest is of what was in it", x.ofTank(1, 4), 3);
    }

    private static void ofCargo() {
        CargoTanks x = new CargoTanks();
        x.tank(10, 0, 0);
        x.tank(10, 1, 0);
        x.tank(10, 2, 0);
        x.tank(10, 1, 0);
        x.cargo(5, 77, 6, 2, 4, 8);
        x.cargo(3, 1, 15, 0, 0, 0);
        x.cargo(0, 1, 15, 0, 0, 32);
        x.cargo(6, 1, 15, 0, 0, 64);
        due(11, "no cargo", x.ofCargo(4, 0), UNKNOWN);
        due(11, "no cargo, bad too", x.ofCargo(NONE, 8), UNKNOWN);
        due(11, "8", x.ofCargo(0, 8), OUTSIDE);
        due(11, "-1", x.ofCargo(0, -1), OUTSIDE);
        int[] want = {5, 77, 6, 2, 4, 8, 14, 6};
        for (int what = 0; what < 8; what++) {
            due(11, "what " + what, x.ofCargo(0, what), want[what]);
        }
        due(11, "clash told by the other one", x.ofCargo(1, 7), 1);
        due(11, "clash told by this one", x.ofCargo(2, 7), 1);
        due(11, "clash with itself", x.ofCargo(3, 7), 8);
    }

    private static void ofCargoFollowsChanges() {
        CargoTanks x = ship(2, 10);
        x.cargo(5, 5, 1, 2, 4, 16);
        x.cargo(4, 5, 1, 0, 0, 0);
        due(11, "both suit", x.ofCargo(0, 6), 3);
        x.latest(0, 0, 1);
        due(11, "behind", x.ofCargo(0, 6), 2);
        x.latest(1, 2, 2);
        due(11, "never", x.ofCargo(0, 6), 0);
        due(11, "clashes", x.ofCargo(0, 7), 2);
        x.uncargo();
        due(11, "clashes no more", x.ofCargo(0, 7), 0);
    }

    private static void needs() {
        CargoTanks x = ship(1, 10);
        x.cargo(2, 5, 0, 0, 0, 0);
        due(12, "no tank", x.needs(1, 0), UNKNOWN);
        due(12, "no cargo", x.needs(0, 1), UNKNOWN);
        due(12, "cargo none", x.needs(0, NONE), UNKNOWN);
        x.washes(3, 2, 2);
        x.washes(2, 3, 1);
        x.washes(2, 2, 3);
        due(12, "none was in it", x.needs(0, 0), 0);
        x.latest(0, 1, 3);
        due(12, "the others do not count", x.needs(0, 0), 0);
        x.latest(0, 0, 3);
        due(12, "from 3 to 2, not suiting it", x.needs(0, 0), 2);
        x.latest(0, 0, 2);
        due(12, "from 2 to 2", x.needs(0, 0), 3);
    }

    private static void why() {
        CargoTanks x = new CargoTanks();
        x.tank(10, 2, 0);
        x.cargo(2, 5, 11, 1 << 3, 1 << 3 | 1 << 4, 0);
        x.cargo(2, 5, 4, 1, 2, 255);
        due(13, "no tank", x.why(1, 0), UNKNOWN);
        due(13, "no cargo", x.why(0, 2), UNKNOWN);
        due(13, "coat", x.why(0, 0), 1);
        due(13, "suits", x.why(0, 1), 0);
        x.latest(0, 0, 3);
        due(13, "all", x.why(0, 0), 7);
        x.latest(0, 0, 4);
        due(13, "coat, never at 0", x.why(0, 0), 5);
        x.latest(0, 0, NONE);
        x.latest(0, 1, 3);
        due(13, "coat, never at 1", x.why(0, 0), 5);
        x.latest(0, 1, NONE);
        x.latest(0, 2, 4);
        due(13, "coat, never at 2", x.why(0, 0), 5);
        x.latest(0, 2, 0);
        due(13, "behind is of the last one alone", x.why(0, 1), 0);
        x.latest(0, 0, 0);
        due(13, "behind", x.why(0, 1), 2);
        x.latest(0, 0, 1);
        due(13, "never", x.why(0, 1), 4);
    }

    private static void plan() {
        CargoTanks x = ship(2, 10);
        due(14, "no cargo", x.plan(0, 0), UNKNOWN);
        due(14, "no tank", x.plan(2, NONE), UNKNOWN);
        due(14, "none at first", x.plan(0, NONE), NONE);
        easy(x, 0, 5);
        easy(x, 1, 5);
        due(14, "no cargo 2", x.plan(0, 2), UNKNOWN);
        due(14, "no cargo -1", x.plan(0, -1), UNKNOWN);
        due(14, "none yet", x.plan(0, 1), NONE);
        due(14, "1", x.plan(0, 0), 1);
        due(14, "0", x.plan(0, NONE), 0);
        due(14, "none", x.plan(0, 1), NONE);
        due(14, "the other tank", x.plan(1, 1), NONE);
        x.tank(10, 0, 0);
        due(14, "a tank that comes", x.plan(2, NONE), NONE);
        due(14, "others stay", x.plan(0, 1), 1);
    }

    private static void brokenInOrder() {
        CargoTanks x = new CargoTanks();
        x.tank(10, 0, 9);
        x.tank(10, 0, 9);
        x.tank(10, 1, 9);
        x.cargo(0, 25, 1, 0, 0, 1);
        x.cargo(1, 10, 3, 0, 0, 0);
        due(15, "set 4", x.broken(4), OUTSIDE);
        due(15, "set -1", x.broken(-1), OUTSIDE);
        due(15, "set least", x.broken(LEAST), OUTSIDE);
        x.bound(0);
        x.neighbours(0, 1, true);
        x.plan(0, 0);
        x.plan(1, 0);
        x.plan(2, 0);
        due(15, "not of the set", x.broken(2), 1);
        due(15, "it does not suit", x.broken(1), 2);
        x.plan(2, NONE);
        due(15, "clash with itself", x.broken(1), 3);
        x.neighbours(0, 1, false);
        due(15, "too little room", x.broken(1), 4);
        x.amount(0, 10);
        due(15, "one stays empty", x.broken(1), 5);
        due(15, "the other one has no tank", x.broken(3), 4);
        x.plan(1, NONE);
        due(15, "list", x.broken(1), 6);
        x.bound(89);
        due(15, "list is one more", x.broken(1), 6);
        x.bound(90);
        due(15, "right", x.broken(1), 0);
        due(15, "nothing told is of no set", x.broken(0), 1);
        x.plan(0, NONE);
        due(15, "empty plan, empty set", x.broken(0), 0);
        due(15, "empty plan", x.broken(1), 4);
    }

    private static void brokenEdges() {
        CargoTanks x = new CargoTanks();
        x.tank(10, 0, -9);
        x.tank(10, 0, 0);
        x.tank(10, 0, 0);
        easy(x, 0, 11);
        easy(x, 1, 10);
        x.bound(89);
        x.plan(0, 0);
        x.plan(1, 0);
        x.plan(2, 1);
        due(15, "list below 0 counts without its sign", x.broken(3), 6);
        x.bound(90);
        due(15, "and fits the bound", x.broken(3), 0);
        x.amount(0, 20);
        due(15, "just room enough", x.broken(3), 0);
        x.amount(0, 21);
        due(15, "one too much", x.broken(3), 4);
        x.amount(0, 10);
        due(15, "the second one stays empty", x.broken(3), 5);
        x.plan(0, NONE);
        x.plan(1, 0);
        due(15, "a tank told no more is filled no more", x.broken(2), 1);
        x.bound(0);
        due(15, "nor is it in the list", x.broken(3), 0);
        x.plan(0, 0);
        x.bound(90);
        x.amount(0, 20);
        x.latest(0, 0, 3);
        x.uncargo();
        x.uncargo();
        x.cargo(0, 20, 15, 8, 0, 0);
        easy(x, 1, 10);
        x.plan(0, 0);
        due(15, "the first tank does not suit", x.broken(3), 2);
        x.latest(0, 0, NONE);
        x.plan(1, 0);
        x.plan(2, 1);
        x.load();
        due(15, "what tanks hold does not matter", x.broken(3), 0);
    }

    private static void ofPlan() {
        CargoTanks x = new CargoTanks();
        x.tank(10, 0, 2);
        x.tank(20, 0, -3);
        x.tank(30, 1, 9);
        x.cargo(0, 25, 1, 0, 0, 0);
        x.cargo(1, 400, 0, 0, 0, 0);
        due(16, "3", x.ofPlan(3), OUTSIDE);
        due(16, "-1", x.ofPlan(-1), OUTSIDE);
        due(16, "empty cost", x.ofPlan(0), 0);
        due(16, "empty tanks", x.ofPlan(1), 0);
        due(16, "empty list", x.ofPlan(2), 100000);
        x.washes(4, 0, 2);
        x.washes(4, 1, 3);
        x.latest(0, 0, 4);
        x.latest(1, 1, 4);
        x.latest(2, 0, 4);
        x.plan(0, 0);
        x.plan(1, 0);
        due(16, "cost", x.ofPlan(0), 2);
        due(16, "tanks", x.ofPlan(1), 2);
        due(16, "list, filled by number", x.ofPlan(2), 100000 + 20 - 45);
        x.plan(2, 1);
        due(16, "cost, not suiting", x.ofPlan(0), 5);
        due(16, "list, as far as they go", x.ofPlan(2), 100000 + 20 - 45 + 270);
        x.amount(0, 10);
        due(16, "tanks, one stays empty", x.ofPlan(1), 3);
        due(16, "list, one stays empty", x.ofPlan(2), 100000 + 20 + 270);
        due(16, "cost of the one that stays empty", x.ofPlan(0), 5);
    }

    private static void bestRefusals() {
        CargoTanks x = ship(2, 10);
        easy(x, 0, 5);
        int[] bad = {-1, 4, 9, 12, 19, 22, 16, 26, 30, LEAST, MOST, LEAST + 9, LEAST + 19};
        for (int what : bad) {
            due(17, "what " + what, x.best(1, what), OUTSIDE);
        }
        due(17, "set 2", x.best(2, 0), OUTSIDE);
        due(17, "set -1", x.best(-1, 0), OUTSIDE);
        due(17, "set least", x.best(LEAST, 3), OUTSIDE);
        x.amount(0, 21);
        int[] none = {0, 1, 2, 10, 11, 20, 21};
        for (int what : none) {
            due(17, "no plan, what " + what, x.best(1, what), NONE);
        }
        due(17, "no plan", x.best(1, 3), 0);
        due(17, "empty set", x.best(0, 3), 1);
        due(17, "empty set, cargo", x.best(0, 11), NONE);
        due(17, "empty set, how much", x.best(0, 21), 0);
    }

    private static void bestOrder() {
        CargoTanks x = new CargoTanks();
        x.tank(10, 0, 0);
        x.tank(10, 0, 0);
        x.tank(20, 0, 0);
        easy(x, 1, 20);
        x.washes(0, 1, 1);
        x.latest(2, 0, 0);
        due(17, "cost ahead of tanks", x.best(1, 0), 0);
        due(17, "two tanks", x.best(1, 1), 2);
        x.washes(0, 1, 0);
        due(17, "fewest tanks", x.best(1, 1), 1);
        due(17, "that is 2", x.best(1, 12), 0);
        due(17, "0 is none", x.best(1, 10), NONE);
        due(17, "all is in 2", x.best(1, 22), 20);
        x.amount(0, 10);
        due(17, "first row: a cargo ahead of none", x.best(1, 10), 0);
        due(17, "first row", x.best(1, 12), NONE);
        easy(x, 2, 10);
        due(17, "first row of two: 0", x.best(3, 10), 0);
        due(17, "first row of two: 1", x.best(3, 11), 1);
        due(17, "first row of two: 2", x.best(3, 12), NONE);
        due(17, "the other one alone", x.best(2, 10), 1);
    }

    private static void bestFillsByNumber() {
        CargoTanks x = new CargoTanks();
        x.tank(10, 0, -4);
        x.tank(20, 0, 3);
        easy(x, 1, 25);
        due(17, "first tank is full", x.best(1, 20), 10);
        due(17, "second has the rest", x.best(1, 21), 15);
        due(17, "list", x.best(1, 2), 100005);
        due(17, "tanks", x.best(1, 1), 2);
        x.bound(4);
        due(17, "beyond the bound", x.best(1, 3), 0);
        due(17, "beyond the bound: none", x.best(1, 2), NONE);
        x.bound(5);
        due(17, "within the bound", x.best(1, 3), 1);
        x.amount(0, 10);
        x.bound(30);
        due(17, "list below 0 counts without its sign", x.best(1, 3), 1);
        due(17, "the second tank", x.best(1, 21), 10);
        x.bound(40);
        due(17, "both", x.best(1, 3), 2);
        due(17, "the first tank", x.best(1, 2), 99960);
    }

    private static void bestCountsPlans() {
        CargoTanks x = ship(4, 10);
        easy(x, 0, 10);
        due(17, "one tank of four", x.best(1, 3), 4);
        x.amount(0, 20);
        due(17, "two of four", x.best(1, 3), 6);
        x.amount(0, 11);
        due(17, "two of four, none of them empty", x.best(1, 3), 6);
        easy(x, 1, 20);
        due(17, "two and two", x.best(3, 3), 6);
        x.neighbours(0, 1, true);
        due(17, "neighbours do not matter", x.best(3, 3), 6);
        x.uncargo();
        x.cargo(1, 20, 15, 0, 0, 1);
        due(17, "0 and 1 have the same cargo then", x.best(3, 3), 2);
        x.uncargo();
        x.cargo(1, 20, 15, 0, 0, 2);
        due(17, "0 and 1 have not both the second one", x.best(2, 3), 5);
        x.uncargo();
        x.cargo(1, 20, 14, 0, 0, 1);
        due(17, "a coat is still wrong beside another cargo", x.best(3, 3), 0);
        CargoTanks y = ship(6, 1);
        for (int c = 0; c < 4; c++) {
            easy(y, c, 1);
        }
        due(17, "four in six", y.best(15, 3), 360);
    }

    private static void bestFollowsChanges() {
        CargoTanks x = ship(1, 10);
        easy(x, 1, 10);
        due(17, "one plan", x.best(1, 3), 1);
        x.tank(10, 0, 3);
        due(17, "a tank came", x.best(1, 3), 2);
        x.bound(29);
        due(17, "bound", x.best(1, 3), 1);
        x.bound(30);
        due(17, "bound again", x.best(1, 3), 2);
        x.amount(0, 15);
        due(17, "amount", x.best(1, 3), 1);
        easy(x, 2, 5);
        due(17, "a cargo came", x.best(3, 3), 0);
        x.uncargo();
        due(17, "a cargo went", x.best(3, 3), OUTSIDE);
        x.uncargo();
        x.cargo(1, 15, 1, 1, 0, 2);
        due(17, "another one in its place", x.best(1, 3), 1);
        x.neighbours(0, 1, true);
        due(17, "neighbours", x.best(1, 3), 0);
        x.neighbours(0, 1, false);
        due(17, "neighbours no more", x.best(1, 3), 1);
        x.latest(0, 0, 0);
        due(17, "latest", x.best(1, 3), 0);
        x.latest(0, 0, 4);
        x.washes(4, 1, 3);
        due(17, "washes", x.best(1, 0), 3);
        x.washes(4, 1, 1);
        due(17, "fewer washes", x.best(1, 0), 1);
        x.washes(1, 1, 2);
        x.load();
        due(17, "what is held does not matter", x.best(1, 0), 1);
        x.unload(0);
        due(17, "unloaded", x.best(1, 0), 4);
        x.amount(0, 10);
        x.bound(9999);
        due(17, "it goes to the first one", x.best(1, 10), 0);
        x.load();
        due(17, "poured into the second one", x.pour(0, 1, 10), 10);
        x.washes(1, 1, 0);
        x.latest(1, 0, 5);
        x.washes(5, 1, 1);
        due(17, "still the first one", x.best(1, 10), 0);
        x.washes(1, 1, 3);
        due(17, "now the second one", x.best(1, 11), 0);
        x.pour(1, 0, 10);
        due(17, "emptied by pouring: both are behind 1", x.best(1, 0), 3);
    }

    private static void taken() {
        CargoTanks x = ship(2, 10);
        due(18, "no cargo", x.taken(), 0);
        easy(x, 0, 21);
        due(18, "none can be taken", x.taken(), 0);
        easy(x, 1, 5);
        due(18, "the second one can", x.taken(), 2);
        easy(x, 2, 6);
        due(18, "both can", x.taken(), 6);
        easy(x, 3, 11);
        due(18, "most amounts, fewest cargoes", x.taken(), 8);
        x.amount(3, 10);
        due(18, "10 and 6", x.taken(), 12);
        x.amount(1, 6);
        due(18, "10 and 6: the least number", x.taken(), 10);
        x.bound(0);
        due(18, "no lever, no list", x.taken(), 10);
        x.uncargo();
        x.uncargo();
        x.uncargo();
        x.amount(0, 1);
        due(18, "an amount of 1", x.taken(), 1);
        CargoTanks y = new CargoTanks();
        y.tank(10, 0, 1);
        easy(y, 0, 10);
        easy(y, 1, 4);
        y.bound(9);
        due(18, "list of 10 is too much", y.taken(), 2);
        y.bound(3);
        due(18, "list of 4, too", y.taken(), 0);
    }

    private static void load() {
        CargoTanks x = new CargoTanks();
        due(19, "nothing at all", x.load(), STATE);
        x.tank(10, 0, -1);
        x.tank(20, 0, 4);
        x.tank(30, 1, 2);
        due(19, "no cargo", x.load(), STATE);
        x.cargo(1, 400, 15, 0, 0, 0);
        due(19, "none in taken", x.load(), STATE);
        x.cargo(2, 25, 1, 0, 0, 0);
        x.washes(5, 2, 3);
        x.washes(6, 2, 2);
        x.latest(0, 0, 5);
        x.latest(0, 1, 7);
        x.latest(1, 0, 6);
        due(19, "washes", x.load(), 5);
        due(19, "cargo of 0", x.ofTank(0, 7), 1);
        due(19, "in 0", x.ofTank(0, 8), 10);
        due(19, "cargo of 1", x.ofTank(1, 7), 1);
        due(19, "in 1", x.ofTank(1, 8), 15);
        due(19, "cargo of 2", x.ofTank(2, 7), NONE);
        due(19, "in 2", x.ofTank(2, 8), 0);
        due(19, "latest stays", x.ofTank(0, 4), 5);
        due(19, "second latest stays", x.ofTank(0, 5), 7);
        due(19, "washes done", x.many(3), 5);
        due(19, "list", x.many(4), 100000 - 10 + 60);
        due(19, "not empty", x.load(), STATE);
        due(19, "washes do not grow", x.many(3), 5);
        x.unload(1);
        x.amount(1, 10);
        due(19, "one tank", x.load(), 0);
        due(19, "one tank is in use", x.many(2), 1);
        due(19, "one tank is not empty", x.load(), STATE);
        x.unload(1);
        x.amount(1, 25);
        due(19, "behind itself", x.load(), 0);
        due(19, "washes so far", x.many(3), 5);
    }

    private static void unload() {
        CargoTanks x = ship(3, 10);
        due(20, "no cargo", x.unload(0), UNKNOWN);
        due(20, "none", x.unload(NONE), UNKNOWN);
        easy(x, 4, 15);
        easy(x, 5, 10);
        due(20, "none holds it", x.unload(0), STATE);
        due(20, "cargo 2", x.unload(2), UNKNOWN);
        x.latest(0, 0, 1);
        x.latest(0, 1, 2);
        x.latest(0, 2, 3);
        x.load();
        due(20, "two held it", x.unload(0), 2);
        int[] want = {4, 1, 2, NONE, 0};
        for (int k = 0; k < 5; k++) {
            due(20, "of 0: " + (4 + k), x.ofTank(0, 4 + k), want[k]);
        }
        due(20, "last of 1", x.ofTank(1, 4), 4);
        due(20, "second of 1", x.ofTank(1, 5), NONE);
        due(20, "2 holds the other one", x.ofTank(2, 7), 1);
        due(20, "last of 2", x.ofTank(2, 4), NONE);
        due(20, "none holds it now", x.unload(0), STATE);
        due(20, "one held the other", x.unload(1), 1);
        due(20, "last of 0 stays", x.ofTank(0, 4), 4);
        due(20, "last of 2 now", x.ofTank(2, 4), 5);
    }

    private static void pourRefusals() {
        CargoTanks x = ship(3, 10);
        easy(x, 0, 10);
        x.load();
        int[][] bad = {{0, 3}, {3, 0}, {0, 0}, {-1, 1}, {1, NONE}};
        for (int[] b : bad) {
            due(21, "bad tanks", x.pour(b[0], b[1], 0), UNKNOWN);
        }
        due(21, "0", x.pour(0, 1, 0), OUTSIDE);
        due(21, "100", x.pour(0, 1, 100), OUTSIDE);
        due(21, "-1", x.pour(0, 1, -1), OUTSIDE);
        due(21, "from an empty one", x.pour(1, 0, 1), STATE);
        due(21, "from an empty one to another one", x.pour(1, 2, 1), STATE);
        due(21, "more than it holds", x.pour(0, 1, 11), STATE);
        due(21, "nothing changed", x.ofTank(0, 8), 10);
        due(21, "all of it", x.pour(0, 1, 10), 10);
        CargoTanks y = ship(2, 99);
        easy(y, 0, 99);
        y.load();
        due(21, "99", y.pour(0, 1, 99), 99);
        due(21, "and 1 back", y.pour(1, 0, 1), 1);
    }

    private static void pourSameCargo() {
        CargoTanks x = new CargoTanks();
        x.tank(20, 0, 3);
        x.tank(20, 0, -2);
        x.cargo(1, 30, 1, 0, 0, 2);
        x.load();
        x.latest(1, 0, 4);
        x.washes(4, 1, 3);
        x.neighbours(0, 1, true);
        due(21, "no room for 11", x.pour(0, 1, 11), STATE);
        due(21, "room for 10, same cargo, though it clashes", x.pour(0, 1, 10), 20);
        due(21, "not washed", x.many(3), 0);
        due(21, "10 are left", x.ofTank(0, 8), 10);
        due(21, "back, all that fits", x.pour(1, 0, 10), 20);
        due(21, "list", x.many(4), 100000 + 60 - 20);
        due(21, "and it is full", x.pour(1, 0, 1), STATE);
        x.unload(0);
        x.amount(0, 20);
        x.neighbours(0, 1, false);
        x.load();
        due(21, "some of it", x.pour(0, 1, 5), 5);
        due(21, "the rest", x.pour(0, 1, 15), 20);
        due(21, "the first one is empty", x.ofTank(0, 7), NONE);
        due(21, "its last", x.ofTank(0, 4), 1);
        due(21, "its second", x.ofTank(0, 5), 1);
        due(21, "its third", x.ofTank(0, 6), NONE);
        due(21, "one in use", x.many(2), 1);
    }

    private static void pourIntoEmpty() {
        CargoTanks x = new CargoTanks();
        x.tank(20, 0, 0);
        x.tank(20, 1, 0);
        x.tank(20, 0, 0);
        x.tank(5, 0, 0);
        x.cargo(1, 20, 1, 4, 8, 0);
        x.washes(5, 1, 2);
        x.latest(2, 0, 5);
        x.latest(3, 0, 5);
        x.load();
        due(21, "coat", x.pour(0, 1, 1), STATE);
        x.latest(2, 0, 2);
        due(21, "behind", x.pour(0, 2, 1), STATE);
        x.latest(2, 0, 5);
        x.latest(2, 2, 3);
        due(21, "never", x.pour(0, 2, 1), STATE);
        x.latest(2, 2, NONE);
        due(21, "no washes by refusals", x.many(3), 0);
        due(21, "it suits", x.pour(0, 2, 4), 4);
        due(21, "washed", x.many(3), 2);
        due(21, "it holds the cargo", x.ofTank(2, 7), 0);
        due(21, "its last stays", x.ofTank(2, 4), 5);
        due(21, "again, not washed", x.pour(0, 2, 4), 8);
        due(21, "washes", x.many(3), 2);
        due(21, "too little room", x.pour(0, 3, 6), STATE);
        due(21, "just room", x.pour(0, 3, 5), 5);
        due(21, "washed, too", x.many(3), 4);
        due(21, "rest", x.ofTank(0, 8), 7);
        due(21, "last of the first one stays", x.ofTank(0, 4), NONE);
        due(21, "all of it", x.pour(0, 2, 7), 15);
        due(21, "last of the first one", x.ofTank(0, 4), 1);
        due(21, "behind its own liquid, no wash", x.pour(2, 0, 15), 15);
        due(21, "washes at last", x.many(3), 4);
        due(21, "last of 2", x.ofTank(2, 4), 1);
        due(21, "second of 2", x.ofTank(2, 5), 5);
    }

    private static void pourClash() {
        CargoTanks x = ship(4, 10);
        x.cargo(1, 10, 1, 0, 0, 4);
        x.cargo(2, 10, 1, 0, 0, 0);
        x.load();
        due(21, "0 holds the first", x.ofTank(0, 7), 0);
        due(21, "1 holds the second", x.ofTank(1, 7), 1);
        due(21, "another cargo is in it", x.pour(0, 1, 1), STATE);
        x.neighbours(1, 2, true);
        due(21, "a neighbour's cargo clashes", x.pour(0, 2, 1), STATE);
        due(21, "the other way about, no neighbour", x.pour(1, 3, 1), 1);
        x.neighbours(0, 2, true);
        due(21, "told by the neighbour's near", x.pour(1, 2, 1), STATE);
        x.neighbours(0, 2, false);
        due(21, "beside its own cargo, no clash", x.pour(1, 2, 1), 1);
        CargoTanks y = ship(2, 10);
        y.cargo(1, 10, 1, 0, 0, 2);
        y.load();
        y.neighbours(0, 1, true);
        due(21, "it clashes with itself", y.pour(0, 1, 5), STATE);
        due(21, "with all of it, too: the first one holds it yet", y.pour(0, 1, 10), STATE);
        y.neighbours(0, 1, false);
        due(21, "apart", y.pour(0, 1, 5), 5);
    }

    private static void many() {
        CargoTanks x = new CargoTanks();
        due(22, "5", x.many(5), OUTSIDE);
        due(22, "-1", x.many(-1), OUTSIDE);
        x.tank(10, 0, -9);
        x.tank(10, 0, 2);
        x.tank(10, 0, 0);
        easy(x, 0, 15);
        due(22, "tanks", x.many(0), 3);
        due(22, "cargoes", x.many(1), 1);
        due(22, "in use", x.many(2), 0);
        due(22, "list of nothing", x.many(4), 100000);
        x.load();
        due(22, "two in use", x.many(2), 2);
        due(22, "list below 0", x.many(4), 100000 - 90 + 10);
        x.plan(2, 0);
        due(22, "the plan does not matter", x.many(4), 100000 - 90 + 10);
        x.washes(0, 0, 3);
        x.unload(0);
        due(22, "none in use", x.many(2), 0);
        due(22, "load washes", x.load(), 3);
        due(22, "washes", x.many(3), 3);
        due(22, "0 and 2 are filled: 1 is empty", x.ofTank(1, 7), NONE);
        due(22, "pour to 1", x.pour(2, 1, 5), 5);
        due(22, "pour washes", x.many(3), 6);
        x.uncargo();
        due(22, "cargoes still", x.many(1), 1);
        x.unload(0);
        x.uncargo();
        due(22, "no cargo", x.many(1), 0);
        due(22, "washes stay", x.many(3), 6);
    }

    /** As many tanks and cargoes as there may be: each row is used to its end. */
    private static void fullShip() {
        CargoTanks x = ship(6, 10);
        for (int c = 0; c < 4; c++) {
            easy(x, c + 4, c < 2 ? 20 : 10);
        }
        int[] row = {0, 0, 1, 1, 2, 3};
        for (int t = 0; t < 6; t++) {
            due(14, "plan of " + t, x.plan(t, row[t]), NONE);
            due(17, "row " + t, x.best(15, 10 + t), row[t]);
        }
        due(3, "neighbours", x.neighbours(5, 4, true), 1);
        due(11, "all suit", x.ofCargo(3, 6), 63);
        due(11, "none clashes", x.ofCargo(3, 7), 0);
        due(15, "right", x.broken(15), 0);
        due(15, "set 16", x.broken(16), OUTSIDE);
        due(16, "tanks", x.ofPlan(1), 6);
        due(16, "cost", x.ofPlan(0), 0);
        due(16, "list", x.ofPlan(2), 100000);
        due(17, "plans", x.best(15, 3), 180);
        due(18, "all", x.taken(), 15);
        due(19, "load", x.load(), 0);
        due(22, "in use", x.many(2), 6);
        due(22, "list", x.many(4), 100000);
        due(21, "full", x.pour(0, 1, 1), STATE);
        due(6, "held", x.uncargo(), STATE);
        due(20, "unload", x.unload(1), 2);
        due(20, "unload the last one", x.unload(3), 1);
        due(21, "into the last one", x.pour(4, 5, 10), 10);
        due(6, "three are left", x.uncargo(), 3);
        due(14, "the plan of the last one", x.plan(5, NONE), NONE);
    }
}
