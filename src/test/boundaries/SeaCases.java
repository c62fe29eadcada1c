/** Loading, unloading, pouring: section 3 of the Terms, promises 19 to 22. */
final class SeaCases {
    private static final int UNKNOWN = Doc.UNKNOWN, OUTSIDE = Doc.OUTSIDE, STATE = Doc.STATE,
            NONE = Doc.NONE, TERMS = Doc.TERMS, LEAST = Doc.LEAST, MOST = Doc.MOST;

    private final Doc d;

    private SeaCases(Doc d) {
        this.d = d;
    }

    static void all(Doc d) {
        SeaCases cases = new SeaCases(d);
        cases.loading();
        cases.loadingWashes();
        cases.unloading();
        cases.loadAnswer();
        cases.loadNotEmpty();
        cases.loadNothing();
        cases.unloadAnswer();
        cases.unloadRefusals();
        cases.manyAnswers();
        cases.manyWashes();
        cases.manyList();
        cases.manyRefusals();
    }

    private void held(String what, CargoTanks x, int... want) {
        for (int t = 0; t < want.length; t++) {
            d.due(what + ", in tank " + t, x.ofTank(t, 8), want[t]);
            d.due(what + ", empty or not, tank " + t, x.ofTank(t, 7) == NONE ? 0 : 1,
                    want[t] == 0 ? 0 : 1);
        }
    }

    private void loading() {
        d.sentence(TERMS, "LOADING, if all TANKS are empty: by BEST for TAKEN:");
        CargoTanks x = Ships.of(6, 10);
        Ships.easy(x, 0, 61);
        Ships.easy(x, 1, 15);
        Ships.easy(x, 2, 41);
        Ships.easy(x, 3, 40);
        x.plan(0, 0);
        d.due("15 and 40", x.taken(), 10);
        int[] best = {1, 1, 3, 3, 3, 3};
        d.due("loaded", x.load(), 0);
        for (int t = 0; t < 6; t++) {
            d.due("cargo of " + t, x.ofTank(t, 7), best[t]);
            d.due("as the best has it", x.best(10, 10 + t), best[t]);
        }
        held("filled", x, 10, 5, 10, 10, 10, 10);
        d.due("the plan stays", x.plan(0, 0), 0);
        d.due("and does not matter", x.ofPlan(1), 1);
    }

    private void loadingWashes() {
        d.sentence(TERMS, "each TANK is washed as it needs, and holds what it is filled with.");
        CargoTanks x = Ships.of(3, 10);
        Ships.easy(x, 1, 20);
        x.washes(5, 1, 3);
        x.washes(6, 1, 2);
        x.latest(0, 0, 5);
        x.latest(1, 0, 6);
        x.latest(2, 0, 6);
        x.latest(2, 1, 5);
        d.due("2 and 2 washes, none of the first tank", x.load(), 4);
        held("filled", x, 0, 10, 10);
        d.due("washes", x.many(3), 4);
        d.due("what was last in it stays so", x.ofTank(1, 4), 6);
        d.due("in an empty one, too", x.ofTank(0, 4), 5);
        d.due("and what was there before", x.ofTank(2, 5), 5);
    }

    private void unloading() {
        d.sentence(TERMS, "UNLOADING a CARGO: each TANK that holds it is empty then, its LIQUID comes"
                + " ahead of the two first of its LATEST.");
        CargoTanks x = Ships.of(4, 10);
        Ships.easy(x, 6, 25);
        Ships.easy(x, 7, 5);
        for (int k = 0; k < 3; k++) {
            x.latest(0, k, k + 1);
            x.latest(3, k, k + 1);
        }
        x.latest(1, 1, 5);
        x.load();
        x.unload(0);
        int[][] want = {{6, 1, 2, NONE, 0}, {6, NONE, 5, NONE, 0}, {6, NONE, NONE, NONE, 0},
            {1, 2, 3, 1, 5}};
        for (int t = 0; t < 4; t++) {
            for (int k = 0; k < 5; k++) {
                d.due("tank " + t + ", what " + (4 + k), x.ofTank(t, 4 + k), want[t][k]);
            }
        }
        x.unload(1);
        d.due("the other one", x.ofTank(3, 4), 7);
        d.due("an empty one gets nothing more", x.ofTank(0, 4), 6);
        d.due("the second of that", x.ofTank(0, 5), 1);
    }

    private void loadAnswer() {
        d.sentence(19, "LOADING: how many WASHES it took.");
        CargoTanks x = Ships.of(6, 10);
        Ships.easy(x, 1, 60);
        x.washes(1, 1, 3);
        d.due("nothing was in them", x.load(), 0);
        x.unload(0);
        d.due("the most there is", x.load(), 18);
        x.unload(0);
        d.due("again", x.load(), 18);
        x.unload(0);
        x.amount(0, 1);
        d.due("one tank", x.load(), 3);
        d.due("all of them", x.many(3), 39);
        held("one tank", x, 1, 0, 0, 0, 0, 0);
    }

    private void loadNotEmpty() {
        d.sentence(19, "STATE: some TANK is not empty,");
        d.refused("twice", Ships::loaded, CargoTanks::load, STATE);
        d.refused("one is not empty", SeaCases::oneOfTwo, CargoTanks::load, STATE);
        d.refused("1 is left in the last tank", SeaCases::oneInTheLast, CargoTanks::load, STATE);
        d.refused("and nothing could be taken", SeaCases::heldAndTooLarge, CargoTanks::load, STATE);
        CargoTanks x = oneInTheLast();
        x.unload(0);
        d.due("all are empty", x.load(), 0);
        CargoTanks y = oneOfTwo();
        y.unload(1);
        d.due("all are empty", y.load(), 0);
    }

    /** Two cargoes were loaded, one of them has been unloaded. */
    private static CargoTanks oneOfTwo() {
        CargoTanks x = Ships.of(4, 10);
        Ships.easy(x, 1, 20);
        Ships.easy(x, 2, 20);
        x.load();
        x.unload(0);
        return x;
    }

    private static CargoTanks oneInTheLast() {
        CargoTanks x = Ships.of(6, 10);
        Ships.easy(x, 1, 1);
        x.load();
        x.pour(0, 5, 1);
        return x;
    }

    private static CargoTanks heldAndTooLarge() {
        CargoTanks x = Ships.of(1, 10);
        x.cargo(1, 10, 1, 4, 0, 0);
        x.load();
        x.latest(0, 0, 2);
        return x;
    }

    private void loadNothing() {
        d.sentence(19, "there are no CARGOES in TAKEN.");
        d.refused("nothing at all", CargoTanks::new, CargoTanks::load, STATE);
        d.refused("no cargo", () -> Ships.of(6, 10), CargoTanks::load, STATE);
        d.refused("no tank", SeaCases::noTank, CargoTanks::load, STATE);
        d.refused("none fits", SeaCases::noneFits, CargoTanks::load, STATE);
        CargoTanks x = noneFits();
        x.amount(0, 10);
        d.due("it fits now", x.load(), 0);
        CargoTanks y = noTank();
        y.tank(1, 0, 0);
        d.due("there is a tank now", y.load(), 0);
    }

    private static CargoTanks noTank() {
        CargoTanks x = new CargoTanks();
        Ships.easy(x, 1, 1);
        return x;
    }

    private static CargoTanks noneFits() {
        CargoTanks x = Ships.of(1, 10);
        Ships.easy(x, 1, 11);
        x.latest(0, 0, 3);
        x.plan(0, 0);
        return x;
    }

    private void unloadAnswer() {
        d.sentence(20, "UNLOADING a CARGO: how many TANKS held it.");
        for (int count = 1; count < 7; count++) {
            CargoTanks x = Ships.of(6, 10);
            Ships.easy(x, 1, 10 * count);
            x.load();
            d.due("so many", x.unload(0), count);
            held("all are empty", x, 0, 0, 0, 0, 0, 0);
        }
        CargoTanks y = Ships.of(6, 10);
        Ships.easy(y, 1, 10);
        Ships.easy(y, 2, 1);
        y.load();
        for (int t = 2; t < 6; t++) {
            y.pour(0, t, 2);
        }
        d.due("poured into four more", y.unload(0), 5);
        d.due("the other one", y.unload(1), 1);
        d.due("no washes", y.many(3), 0);
    }

    private void unloadRefusals() {
        d.sentence(20, "UNKNOWN; STATE: none does.");
        d.refused("there is none", CargoTanks::new, x -> x.unload(0), UNKNOWN);
        for (int c : new int[] {-1, 4, NONE, LEAST, MOST}) {
            d.refused("cargo " + c, Ships::loaded, x -> x.unload(c), UNKNOWN);
            d.refused("cargo " + c + ", all are empty", Ships::full, x -> x.unload(c), UNKNOWN);
        }
        for (int c = 0; c < 4; c++) {
            int one = c;
            d.refused("not loaded: " + c, Ships::full, x -> x.unload(one), STATE);
        }
        d.refused("not taken", Ships::loaded, x -> x.unload(3), STATE);
        d.refused("unloaded before", SeaCases::oneOfTwo, x -> x.unload(0), STATE);
    }

    private void manyAnswers() {
        d.sentence(22, "How many: 0 TANKS, 1 CARGOES, 2 TANKS that hold something,");
        CargoTanks x = new CargoTanks();
        for (int t = 0; t < 6; t++) {
            d.due("tanks", x.many(0), t);
            x.tank(10, 0, 0);
        }
        for (int c = 0; c < 4; c++) {
            d.due("cargoes", x.many(1), c);
            Ships.easy(x, c, c == 3 ? 30 : 10);
        }
        d.due("tanks, all", x.many(0), 6);
        d.due("cargoes, all", x.many(1), 4);
        d.due("none holds something", x.many(2), 0);
        x.load();
        d.due("all hold something", x.many(2), 6);
        x.unload(3);
        d.due("three do", x.many(2), 3);
        x.pour(0, 5, 1);
        d.due("four do", x.many(2), 4);
        x.pour(0, 5, 9);
        d.due("three do", x.many(2), 3);
        x.uncargo();
        d.due("cargoes, one is no more", x.many(1), 3);
        d.due("tanks stay", x.many(0), 6);
    }

    private void manyWashes() {
        d.sentence(22, "3 WASHES done so far (by load(), pour()),");
        CargoTanks x = Ships.of(2, 10);
        Ships.easy(x, 1, 10);
        x.washes(1, 1, 3);
        x.washes(5, 1, 2);
        x.latest(0, 0, 5);
        x.latest(1, 0, 5);
        d.due("none so far", x.many(3), 0);
        x.best(1, 0);
        x.needs(0, 0);
        x.plan(0, 0);
        d.due("none by asking", x.many(3), 0);
        x.load();
        d.due("by loading", x.many(3), 2);
        x.pour(0, 1, 4);
        d.due("by pouring", x.many(3), 4);
        x.pour(0, 1, 4);
        d.due("it holds the same", x.many(3), 4);
        x.pour(0, 1, 2);
        d.due("all of it", x.many(3), 4);
        x.pour(1, 0, 10);
        d.due("and back behind itself", x.many(3), 7);
        x.unload(0);
        d.due("none by unloading", x.many(3), 7);
        x.load();
        d.due("and loaded again", x.many(3), 10);
        x.load();
        d.due("none by a refusal", x.many(3), 10);
    }

    private void manyList() {
        d.sentence(22, "4 LIST of what TANKS hold, and 100000.");
        for (int lever : new int[] {-9, 9}) {
            CargoTanks x = new CargoTanks();
            for (int t = 0; t < 6; t++) {
                x.tank(99, 0, lever);
            }
            Ships.easy(x, 0, 297);
            Ships.easy(x, 1, 297);
            d.due("nothing yet", x.many(4), 100000);
            x.load();
            d.due("the farthest there is", x.many(4), 100000 + 594 * lever);
            x.unload(0);
            d.due("half of it", x.many(4), 100000 + 297 * lever);
            x.unload(1);
            d.due("nothing", x.many(4), 100000);
        }
        CargoTanks y = new CargoTanks();
        y.tank(10, 0, -3);
        y.tank(10, 0, 5);
        Ships.easy(y, 0, 10);
        y.load();
        y.plan(1, 0);
        d.due("in the first one", y.many(4), 100000 - 30);
        y.bound(25);
        y.pour(0, 1, 5);
        d.due("in both", y.many(4), 100000 - 15 + 25);
        y.pour(0, 1, 5);
        d.due("in the second one, beyond the bound", y.many(4), 100050);
    }

    private void manyRefusals() {
        d.sentence(22, "OUTSIDE.");
        for (int what : new int[] {-1, 5, 6, NONE, LEAST, MOST}) {
            d.refused("what " + what, Ships::loaded, x -> x.many(what), OUTSIDE);
            d.refused("what " + what + ", new", CargoTanks::new, x -> x.many(what), OUTSIDE);
        }
    }
}
