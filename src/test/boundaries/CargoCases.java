/** Cargoes, washes, what suits and what clashes: promises 5 to 9, and 11 to 13. */
final class CargoCases {
    private static final int UNKNOWN = Doc.UNKNOWN, OUTSIDE = Doc.OUTSIDE, STATE = Doc.STATE,
            FULL = Doc.FULL, NONE = Doc.NONE, TERMS = Doc.TERMS, LEAST = Doc.LEAST, MOST = Doc.MOST;

    private final Doc d;

    private CargoCases(Doc d) {
        this.d = d;
    }

    static void all(Doc d) {
        CargoCases cases = new CargoCases(d);
        cases.fourCargoes();
        cases.numbersOfACargo();
        cases.behind();
        cases.never();
        cases.near();
        cases.washesOfAll();
        cases.needsByTheLast();
        cases.needsNone();
        cases.suitsByCoat();
        cases.suitsByBehind();
        cases.suitsByNever();
        cases.clash();
        cases.cargoNumber();
        cases.cargoUnknown();
        cases.cargoOutside();
        cases.cargoFull();
        cases.uncargoAnswer();
        cases.uncargoAndThePlan();
        cases.uncargoRefusals();
        cases.amountAnswer();
        cases.amountRefusals();
        cases.amountState();
        cases.washesAnswer();
        cases.washesRefusals();
        cases.boundAnswer();
        cases.boundRefusals();
        cases.ofCargoAnswers();
        cases.ofCargoSuits();
        cases.ofCargoClashes();
        cases.ofCargoRefusals();
        cases.needsAnswer();
        cases.needsRefusals();
        cases.whyAnswer();
        cases.whyRefusals();
    }

    private void fourCargoes() {
        d.sentence(TERMS, "CARGOES, 4 at most, numbered likewise:");
        CargoTanks x = new CargoTanks();
        for (int c = 0; c < 4; c++) {
            d.due("before it comes", x.ofCargo(c, 0), UNKNOWN);
            d.due("how many", x.many(1), c);
            d.due("cargo " + c, Ships.easy(x, c + 2, c + 1), c);
            d.due("it is that one", x.ofCargo(c, 0), c + 2);
        }
        d.due("the fifth", Ships.easy(x, 0, 1), FULL);
        d.due("how many", x.many(1), 4);
        d.due("it did not come", x.ofCargo(4, 0), UNKNOWN);
        d.due("the first one stays", x.ofCargo(0, 0), 2);
        d.due("the last one stays", x.ofCargo(3, 0), 5);
        x.uncargo();
        d.due("the fourth again", Ships.easy(x, 7, 1), 3);
        d.due("it is that one", x.ofCargo(3, 0), 7);
    }

    private void numbersOfACargo() {
        d.sentence(TERMS, "each a LIQUID, an AMOUNT (1 .. 400), COATS that it bears (a set of"
                + " 0 .. 3),");
        int[][] good = {{0, 1, 0, 0, 0, 0}, {7, 400, 15, 255, 255, 255}, {3, 399, 8, 128, 1, 64},
            {4, 2, 1, 1, 128, 2}};
        CargoTanks x = new CargoTanks();
        for (int c = 0; c < 4; c++) {
            int[] g = good[c];
            d.due("cargo " + c, x.cargo(g[0], g[1], g[2], g[3], g[4], g[5]), c);
        }
        for (int c = 0; c < 4; c++) {
            for (int what = 0; what < 6; what++) {
                d.due("cargo " + c + ", what " + what, x.ofCargo(c, what), good[c][what]);
            }
        }
    }

    private void behind() {
        d.sentence(TERMS, "BEHIND: LIQUIDS behind which it may not come,");
        CargoTanks x = Ships.of(1, 10);
        x.cargo(1, 5, 1, 129, 0, 0);
        d.due("behind nothing", x.taken(), 1);
        for (int liquid = 0; liquid < 8; liquid++) {
            x.latest(0, 0, liquid);
            d.due("behind " + liquid, x.taken(), liquid == 0 || liquid == 7 ? 0 : 1);
        }
        x.latest(0, 1, 0);
        x.latest(0, 2, 7);
        x.latest(0, 0, 3);
        d.due("what was ahead of the last one does not matter", x.taken(), 1);
    }

    private void never() {
        d.sentence(TERMS, "NEVER: LIQUIDS that may not be among the three LATEST,");
        for (int k = 0; k < 3; k++) {
            CargoTanks x = Ships.of(1, 10);
            x.cargo(1, 5, 1, 0, 129, 0);
            for (int liquid = 0; liquid < 8; liquid++) {
                x.latest(0, k, liquid);
                d.due(liquid + " at " + k, x.taken(), liquid == 0 || liquid == 7 ? 0 : 1);
            }
            x.latest(0, k, NONE);
            d.due("none at " + k, x.taken(), 1);
        }
        CargoTanks y = Ships.of(1, 10);
        y.cargo(1, 5, 1, 0, 1, 0);
        y.cargo(2, 5, 1, 0, 0, 0);
        y.latest(0, 2, 0);
        y.load();
        y.unload(1);
        d.due("a fourth that was in it does not matter", y.taken(), 1);
    }

    private void near() {
        d.sentence(TERMS, "NEAR: LIQUIDS that may not be in a NEIGHBOUR (sets of LIQUIDS each).");
        for (int liquid = 0; liquid < 8; liquid++) {
            CargoTanks x = Ships.of(2, 10);
            x.cargo(1, 10, 1, 0, 0, 1 << 7 | 1);
            Ships.easy(x, liquid, 10);
            d.due("apart", x.taken(), 3);
            x.neighbours(0, 1, true);
            d.due("beside " + liquid, x.taken(), liquid == 0 || liquid == 7 ? 1 : 3);
        }
        CargoTanks y = Ships.of(2, 10);
        y.cargo(1, 10, 1, 0, 0, 8);
        y.neighbours(0, 1, true);
        y.latest(1, 0, 3);
        d.due("a liquid that was in a neighbour does not matter", y.best(1, 3), 2);
    }

    private void washesOfAll() {
        d.sentence(TERMS, "WASHES from a LIQUID to another one (perhaps the same): 0 .. 3 (0 at"
                + " first).");
        CargoTanks x = new CargoTanks();
        for (int from = 0; from < 8; from++) {
            for (int to = 0; to < 8; to++) {
                d.due("at first", x.washes(from, to, (from + 2 * to) % 4), 0);
            }
        }
        for (int from = 0; from < 8; from++) {
            for (int to = 0; to < 8; to++) {
                d.due(from + " to " + to, x.washes(from, to, 3), (from + 2 * to) % 4);
            }
        }
        d.due("from 7 to itself", x.washes(7, 7, 0), 3);
        d.due("from 0 to itself", x.washes(0, 0, 0), 3);
    }

    private void needsByTheLast() {
        d.sentence(TERMS, "A TANK needs, for a CARGO, as many WASHES as from its last LATEST to that"
                + " LIQUID");
        CargoTanks x = Ships.of(1, 10);
        Ships.easy(x, 0, 1);
        Ships.easy(x, 7, 1);
        x.washes(0, 7, 1);
        x.washes(7, 0, 2);
        x.washes(7, 7, 3);
        int[][] want = {{0, 1}, {0, 0}, {2, 3}};
        int[] last = {0, 4, 7};
        for (int k = 0; k < 3; k++) {
            x.latest(0, 0, last[k]);
            d.due("behind " + last[k] + " for 0", x.needs(0, 0), want[k][0]);
            d.due("behind " + last[k] + " for 7", x.needs(0, 1), want[k][1]);
        }
        x.latest(0, 1, 0);
        x.latest(0, 2, 4);
        d.due("the others do not matter", x.needs(0, 1), 3);
    }

    private void needsNone() {
        d.sentence(TERMS, "(none, if its last LATEST is NONE, whatever the others are).");
        CargoTanks x = Ships.of(1, 10);
        Ships.easy(x, 1, 10);
        for (int from = 0; from < 8; from++) {
            x.washes(from, 1, 3);
        }
        d.due("nothing was in it", x.needs(0, 0), 0);
        x.latest(0, 1, 0);
        d.due("the second one", x.needs(0, 0), 0);
        x.latest(0, 2, 7);
        d.due("both others", x.needs(0, 0), 0);
        d.due("cost of the best", x.best(1, 0), 0);
        d.due("loading", x.load(), 0);
        x.unload(0);
        d.due("its liquid was in it", x.needs(0, 0), 3);
        x.latest(0, 0, NONE);
        d.due("NONE again", x.needs(0, 0), 0);
    }

    private void suitsByCoat() {
        d.sentence(TERMS, "A TANK SUITS a CARGO, if its COAT is one that this bears,");
        for (int coats = 0; coats < 16; coats++) {
            CargoTanks x = new CargoTanks();
            for (int coat = 0; coat < 4; coat++) {
                x.tank(10, coat, 0);
            }
            x.cargo(0, 1, coats, 0, 0, 0);
            d.due("coats " + coats, x.ofCargo(0, 6), coats);
            d.due("as many plans", x.best(1, 3), Integer.bitCount(coats));
        }
    }

    private void suitsByBehind() {
        d.sentence(TERMS, "its last LATEST is none of BEHIND,");
        CargoTanks x = Ships.of(3, 10);
        x.cargo(0, 1, 1, 255, 0, 0);
        x.latest(1, 0, 0);
        x.latest(2, 1, 0);
        x.latest(2, 2, 7);
        d.due("behind all: a tank with no last one suits", x.ofCargo(0, 6), 5);
        x.latest(2, 0, 7);
        d.due("with 7 it does not", x.ofCargo(0, 6), 1);
        CargoTanks y = Ships.of(1, 10);
        y.cargo(0, 1, 1, 0, 0, 0);
        y.latest(0, 0, 0);
        d.due("behind no liquid: it may come behind its own", y.ofCargo(0, 6), 1);
    }

    private void suitsByNever() {
        d.sentence(TERMS, "and none of its three LATEST is one of NEVER.");
        CargoTanks x = Ships.of(5, 10);
        x.cargo(0, 1, 1, 0, 255, 0);
        x.latest(1, 0, 0);
        x.latest(2, 1, 3);
        x.latest(3, 2, 7);
        d.due("only those in which nothing was", x.ofCargo(0, 6), 17);
        CargoTanks y = Ships.of(1, 10);
        y.cargo(0, 1, 1, 0, 4, 0);
        for (int k = 0; k < 3; k++) {
            y.latest(0, k, 5);
        }
        d.due("others were in it", y.ofCargo(0, 6), 1);
        y.latest(0, 2, 2);
        d.due("the third is one of them", y.ofCargo(0, 6), 0);
    }

    private void clash() {
        d.sentence(TERMS, "Two CARGOES CLASH, if the LIQUID of one is in NEAR of the other one, or"
                + " the other way about.");
        CargoTanks x = new CargoTanks();
        x.cargo(0, 1, 1, 0, 0, 128);
        x.cargo(7, 1, 1, 0, 0, 0);
        x.cargo(0, 1, 1, 0, 0, 0);
        x.cargo(5, 1, 1, 255, 255, 1);
        d.due("told by this one, by the last one", x.ofCargo(0, 7), 10);
        d.due("told by the other one", x.ofCargo(1, 7), 1);
        d.due("of the same liquid, but not with the second", x.ofCargo(2, 7), 8);
        d.due("with both of that liquid", x.ofCargo(3, 7), 5);
        CargoTanks y = new CargoTanks();
        y.cargo(6, 1, 1, 0, 0, 64);
        y.cargo(6, 1, 1, 0, 0, 0);
        d.due("itself, and one of its liquid", y.ofCargo(0, 7), 3);
        d.due("the other one not with itself", y.ofCargo(1, 7), 1);
    }

    private void cargoNumber() {
        d.sentence(5, "A CARGO: its number.");
        CargoTanks x = Ships.of(1, 10);
        d.due("refused", x.cargo(8, 1, 1, 0, 0, 0), UNKNOWN);
        d.due("the first one, behind a refusal", Ships.easy(x, 0, 1), 0);
        d.due("refused", x.cargo(0, 0, 1, 0, 0, 0), OUTSIDE);
        d.due("the second one", Ships.easy(x, 0, 1), 1);
        x.load();
        d.due("one that comes at sea", Ships.easy(x, 0, 1), 2);
        x.uncargo();
        d.due("the same number again", Ships.easy(x, 3, 1), 2);
        d.due("with its own liquid", x.ofCargo(2, 0), 3);
    }

    private void cargoUnknown() {
        d.sentence(5, "UNKNOWN: LIQUID;");
        for (int liquid : new int[] {-1, 8, NONE, LEAST, MOST}) {
            d.refused("liquid " + liquid, CargoTanks::new, x -> x.cargo(liquid, 1, 1, 0, 0, 0),
                    UNKNOWN);
            d.refused("and all others", Ships::full, x -> x.cargo(liquid, 0, 16, 256, 256, 256),
                    UNKNOWN);
        }
    }

    private void cargoOutside() {
        d.sentence(5, "OUTSIDE: AMOUNT, sets (COATS 0 .. 15, others 0 .. 255);");
        for (int amount : new int[] {0, -1, 401, 402, NONE, LEAST, MOST}) {
            d.refused("amount " + amount, CargoTanks::new, x -> x.cargo(0, amount, 1, 0, 0, 0),
                    OUTSIDE);
        }
        for (int coats : new int[] {-1, 16, 17, 255, LEAST, MOST}) {
            d.refused("coats " + coats, CargoTanks::new, x -> x.cargo(0, 1, coats, 0, 0, 0), OUTSIDE);
        }
        for (int set : new int[] {-1, 256, 257, NONE, LEAST, MOST}) {
            d.refused("behind " + set, CargoTanks::new, x -> x.cargo(0, 1, 1, set, 0, 0), OUTSIDE);
            d.refused("never " + set, CargoTanks::new, x -> x.cargo(0, 1, 1, 0, set, 0), OUTSIDE);
            d.refused("near " + set, CargoTanks::new, x -> x.cargo(0, 1, 1, 0, 0, set), OUTSIDE);
        }
        CargoTanks y = new CargoTanks();
        d.due("least of all", y.cargo(0, 1, 0, 0, 0, 0), 0);
        d.due("greatest of all", y.cargo(7, 400, 15, 255, 255, 255), 1);
    }

    private void cargoFull() {
        d.sentence(5, "FULL.");
        d.refused("the fifth, least", Ships::full, x -> x.cargo(0, 1, 0, 0, 0, 0), FULL);
        d.refused("the fifth, greatest", Ships::full, x -> x.cargo(7, 400, 15, 255, 255, 255), FULL);
        d.refused("the fifth at sea", Ships::loaded, x -> x.cargo(0, 1, 1, 0, 0, 0), FULL);
        CargoTanks y = Ships.full();
        y.uncargo();
        d.due("there is room for one again", Ships.easy(y, 0, 1), 3);
        d.due("and for no more", Ships.easy(y, 0, 1), FULL);
    }

    private void uncargoAnswer() {
        d.sentence(6, "The last CARGO is no more");
        CargoTanks x = Ships.full();
        for (int left = 3; left >= 0; left--) {
            d.due("how many are left", x.uncargo(), left);
            d.due("so many", x.many(1), left);
            d.due("it is no more", x.ofCargo(left, 0), UNKNOWN);
            d.due("nor is it of a set", x.broken(1 << left), OUTSIDE);
        }
        d.due("there is none", x.uncargo(), STATE);
        d.sentence(6, "how many are left.");
        CargoTanks y = Ships.of(1, 10);
        Ships.easy(y, 0, 1);
        d.due("none is", y.uncargo(), 0);
        Ships.easy(y, 0, 1);
        Ships.easy(y, 0, 1);
        d.due("one is", y.uncargo(), 1);
    }

    private void uncargoAndThePlan() {
        d.sentence(6, "(THE PLAN tells NONE in its place):");
        CargoTanks x = Ships.of(6, 10);
        Ships.easy(x, 0, 10);
        Ships.easy(x, 1, 10);
        int[] told = {1, 0, NONE, 1, 0, 1};
        for (int t = 0; t < 6; t++) {
            x.plan(t, told[t]);
        }
        d.due("tanks that have one", x.ofPlan(1), 5);
        x.uncargo();
        d.due("tanks that have one yet", x.ofPlan(1), 2);
        Ships.easy(x, 2, 10);
        for (int t = 0; t < 6; t++) {
            d.due("a new one is not in the plan at " + t, x.plan(t, NONE), told[t] == 0 ? 0 : NONE);
        }
    }

    private void uncargoRefusals() {
        d.sentence(6, "STATE: there is none, some TANK holds it.");
        d.refused("there is none", CargoTanks::new, CargoTanks::uncargo, STATE);
        d.refused("there is none, with tanks", () -> Ships.of(6, 1), CargoTanks::uncargo, STATE);
        d.refused("one tank holds it", () -> heldInTanks(1), CargoTanks::uncargo, STATE);
        d.refused("six tanks hold it", () -> heldInTanks(6), CargoTanks::uncargo, STATE);
        CargoTanks x = heldInTanks(2);
        Ships.easy(x, 2, 1);
        d.due("only the one before it is held", x.uncargo(), 1);
        d.due("that is held", x.uncargo(), STATE);
        x.unload(0);
        d.due("not now", x.uncargo(), 0);
        CargoTanks y = Ships.of(2, 10);
        Ships.easy(y, 1, 10);
        y.load();
        y.pour(0, 1, 10);
        d.due("another tank holds it", y.uncargo(), STATE);
        CargoTanks z = Ships.of(1, 10);
        Ships.easy(z, 1, 10);
        z.plan(0, 0);
        d.due("that the plan tells it does not matter", z.uncargo(), 0);
    }

    private static CargoTanks heldInTanks(int count) {
        CargoTanks x = Ships.of(6, 10);
        Ships.easy(x, 1, 10 * count);
        x.plan(3, 0);
        x.load();
        return x;
    }

    private void amountAnswer() {
        d.sentence(7, "AMOUNT of a CARGO becomes v: what it was.");
        CargoTanks x = new CargoTanks();
        for (int c = 0; c < 4; c++) {
            Ships.easy(x, 0, 100 + c);
        }
        int was = 103;
        for (int v : new int[] {1, 400, 400, 399, 2}) {
            d.due("what it was", x.amount(3, v), was);
            d.due("what it is", x.ofCargo(3, 1), v);
            was = v;
        }
        d.due("the first one stays", x.ofCargo(0, 1), 100);
        d.due("the third one stays", x.ofCargo(2, 1), 102);
    }

    private void amountRefusals() {
        d.sentence(7, "UNKNOWN; OUTSIDE;");
        d.refused("there is none", CargoTanks::new, x -> x.amount(0, 1), UNKNOWN);
        for (int c : new int[] {-1, 4, NONE, LEAST, MOST}) {
            d.refused("cargo " + c, Ships::full, x -> x.amount(c, 1), UNKNOWN);
            d.refused("cargo " + c + ", 0", Ships::full, x -> x.amount(c, 0), UNKNOWN);
        }
        for (int v : new int[] {0, -1, 401, NONE, LEAST, MOST}) {
            d.refused("amount " + v, Ships::full, x -> x.amount(3, v), OUTSIDE);
            d.refused("amount " + v + ", held", Ships::loaded, x -> x.amount(0, v), OUTSIDE);
        }
    }

    private void amountState() {
        d.sentence(7, "STATE: some TANK holds it.");
        d.refused("one tank", () -> heldInTanks(1), x -> x.amount(0, 9), STATE);
        d.refused("as it is", () -> heldInTanks(1), x -> x.amount(0, 10), STATE);
        d.refused("six tanks", () -> heldInTanks(6), x -> x.amount(0, 1), STATE);
        CargoTanks x = Ships.loaded();
        d.due("one that no tank holds", x.amount(3, 9), 400);
        int[] was = {20, 12, 13};
        for (int c = 0; c < 3; c++) {
            d.due("held " + c, x.amount(c, 9), STATE);
            x.unload(c);
            d.due("held no more " + c, x.amount(c, 9), was[c]);
        }
    }

    private void washesAnswer() {
        d.sentence(8, "WASHES from a LIQUID to another one become v: what they were.");
        CargoTanks x = new CargoTanks();
        int was = 0;
        for (int v : new int[] {3, 0, 1, 1, 2}) {
            d.due("what they were", x.washes(7, 0, v), was);
            was = v;
        }
        d.due("the other way about", x.washes(0, 7, 3), 0);
        d.due("they stay", x.washes(7, 0, 0), 2);
        d.due("to the same", x.washes(7, 7, 3), 0);
        d.due("to the same, what they were", x.washes(7, 7, 1), 3);
    }

    private void washesRefusals() {
        d.sentence(8, "UNKNOWN; OUTSIDE.");
        for (int wrong : new int[] {-1, 8, NONE, LEAST, MOST}) {
            d.refused("from " + wrong, Ships::full, x -> x.washes(wrong, 0, 1), UNKNOWN);
            d.refused("to " + wrong, Ships::full, x -> x.washes(1, wrong, 1), UNKNOWN);
            d.refused("both " + wrong, Ships::full, x -> x.washes(wrong, wrong, 4), UNKNOWN);
        }
        for (int v : new int[] {-1, 4, NONE, LEAST, MOST}) {
            d.refused("washes " + v, Ships::full, x -> x.washes(1, 1, v), OUTSIDE);
        }
    }

    private void boundAnswer() {
        d.sentence(9, "BOUND becomes v: what it was.");
        CargoTanks x = new CargoTanks();
        int was = 9999;
        for (int v : new int[] {0, 9999, 9998, 1, 1}) {
            d.due("what it was", x.bound(v), was);
            was = v;
        }
    }

    private void boundRefusals() {
        d.sentence(9, "OUTSIDE.");
        for (int v : new int[] {-1, 10000, NONE, LEAST, MOST}) {
            d.refused("bound " + v, Ships::full, x -> x.bound(v), OUTSIDE);
            d.refused("bound " + v + ", new", CargoTanks::new, x -> x.bound(v), OUTSIDE);
        }
    }

    private void ofCargoAnswers() {
        d.sentence(11, "Of a CARGO: 0 LIQUID, 1 AMOUNT, 2 COATS, 3 BEHIND, 4 NEVER, 5 NEAR,");
        CargoTanks x = new CargoTanks();
        x.cargo(0, 1, 2, 3, 4, 5);
        x.cargo(7, 400, 15, 255, 254, 253);
        int[][] want = {{0, 1, 2, 3, 4, 5}, {7, 400, 15, 255, 254, 253}};
        for (int c = 0; c < 2; c++) {
            for (int what = 0; what < 6; what++) {
                d.due("cargo " + c + ", what " + what, x.ofCargo(c, what), want[c][what]);
            }
        }
    }

    private void ofCargoSuits() {
        d.sentence(11, "6 TANKS that SUIT it, as a set,");
        CargoTanks x = new CargoTanks();
        x.cargo(0, 1, 15, 0, 0, 0);
        d.due("there are no tanks", x.ofCargo(0, 6), 0);
        for (int t = 0; t < 6; t++) {
            x.tank(1, t % 4, 0);
            d.due("all that there are", x.ofCargo(0, 6), (2 << t) - 1);
        }
        x.cargo(0, 1, 0, 0, 0, 0);
        d.due("it bears no coat", x.ofCargo(1, 6), 0);
        x.cargo(0, 400, 2, 0, 0, 255);
        d.due("too large for them, and clashing: they suit it", x.ofCargo(2, 6), 34);
        x.amount(1, 6);
        x.load();
        d.due("at sea, too", x.ofCargo(2, 6), 34);
    }

    private void ofCargoClashes() {
        d.sentence(11, "7 CARGOES with which it CLASHES, as a set (itself, too).");
        CargoTanks x = new CargoTanks();
        x.cargo(4, 1, 1, 0, 0, 255);
        d.due("itself alone", x.ofCargo(0, 7), 1);
        for (int c = 1; c < 4; c++) {
            x.cargo(c, 1, 1, 0, 0, 0);
            d.due("all that there are", x.ofCargo(0, 7), (2 << c) - 1);
            d.due("of that one, not itself", x.ofCargo(c, 7), 1);
        }
        x.uncargo();
        d.due("one that is no more", x.ofCargo(0, 7), 7);
        CargoTanks y = new CargoTanks();
        y.cargo(4, 1, 1, 16, 16, 239);
        d.due("not itself", y.ofCargo(0, 7), 0);
    }

    private void ofCargoRefusals() {
        d.sentence(11, "UNKNOWN; OUTSIDE.");
        d.refused("there is none", CargoTanks::new, x -> x.ofCargo(0, 0), UNKNOWN);
        for (int c : new int[] {-1, 4, NONE, LEAST, MOST}) {
            d.refused("cargo " + c, Ships::full, x -> x.ofCargo(c, 7), UNKNOWN);
            d.refused("cargo " + c + ", what 8", Ships::full, x -> x.ofCargo(c, 8), UNKNOWN);
        }
        for (int what : new int[] {-1, 8, 9, NONE, LEAST, MOST}) {
            d.refused("what " + what, Ships::full, x -> x.ofCargo(3, what), OUTSIDE);
        }
    }

    private void needsAnswer() {
        d.sentence(12, "How many WASHES a TANK needs for a CARGO (SUITS it or not).");
        CargoTanks x = Ships.of(6, 10);
        for (int c = 0; c < 3; c++) {
            Ships.easy(x, c, 400);
        }
        x.cargo(3, 400, 0, 255, 255, 255);
        x.latest(5, 0, 6);
        for (int c = 0; c < 4; c++) {
            x.washes(6, c, c);
            d.due("nothing was in it", x.needs(0, c), 0);
            d.due("behind 6", x.needs(5, c), c);
        }
        d.due("it does not suit it at all", x.why(5, 3), 7);
        x.amount(0, 10);
        x.load();
        x.latest(0, 0, 6);
        d.due("it holds something", x.needs(0, 3), 3);
    }

    private void needsRefusals() {
        d.sentence(12, "UNKNOWN.");
        d.refused("there is nothing", CargoTanks::new, x -> x.needs(0, 0), UNKNOWN);
        d.refused("there is no cargo", () -> Ships.of(6, 9), x -> x.needs(0, 0), UNKNOWN);
        for (int wrong : new int[] {-1, 6, NONE, LEAST, MOST}) {
            d.refused("tank " + wrong, Ships::full, x -> x.needs(wrong, 0), UNKNOWN);
            d.refused("cargo " + wrong, Ships::full, x -> x.needs(0, wrong), UNKNOWN);
            d.refused("both " + wrong, Ships::full, x -> x.needs(wrong, wrong), UNKNOWN);
        }
        d.refused("cargo 4", Ships::full, x -> x.needs(5, 4), UNKNOWN);
    }

    private void whyAnswer() {
        d.sentence(13, "Why a TANK does not SUIT a CARGO, as a set: bit 0 its COAT, 1 BEHIND, 2 NEVER"
                + " (0: it SUITS it).");
        for (int set = 0; set < 8; set++) {
            CargoTanks x = new CargoTanks();
            x.tank(10, 3, 0);
            x.latest(0, 0, 7);
            int coats = (set & 1) == 0 ? 8 : 7;
            x.cargo(0, 400, coats, (set & 2) == 0 ? 127 : 128, (set & 4) == 0 ? 127 : 128, 255);
            d.due("why " + set, x.why(0, 0), set);
            d.due("suits", x.ofCargo(0, 6), set == 0 ? 1 : 0);
        }
        CargoTanks y = Ships.of(1, 10);
        y.cargo(0, 1, 1, 2, 2, 0);
        for (int k = 2; k >= 0; k--) {
            y.latest(0, k, 1);
            d.due("never at " + k, y.why(0, 0), k == 0 ? 6 : 4);
        }
    }

    private void whyRefusals() {
        d.sentence(13, "UNKNOWN.");
        d.refused("there is nothing", CargoTanks::new, x -> x.why(0, 0), UNKNOWN);
        d.refused("there is no cargo", () -> Ships.of(6, 9), x -> x.why(0, 0), UNKNOWN);
        for (int wrong : new int[] {-1, 6, NONE, LEAST, MOST}) {
            d.refused("tank " + wrong, Ships::full, x -> x.why(wrong, 0), UNKNOWN);
            d.refused("cargo " + wrong, Ships::full, x -> x.why(0, wrong), UNKNOWN);
            d.refused("both " + wrong, Ships::full, x -> x.why(wrong, wrong), UNKNOWN);
        }
        d.refused("cargo 4", Ships::full, x -> x.why(5, 4), UNKNOWN);
    }
}
