/** Pouring: the end of section 3 of the Terms, and promise 21. */
final class PourCases {
    private static final int UNKNOWN = Doc.UNKNOWN, OUTSIDE = Doc.OUTSIDE, STATE = Doc.STATE,
            NONE = Doc.NONE, TERMS = Doc.TERMS, LEAST = Doc.LEAST, MOST = Doc.MOST;

    private final Doc d;

    private PourCases(Doc d) {
        this.d = d;
    }

    static void all(Doc d) {
        PourCases cases = new PourCases(d);
        cases.room();
        cases.sameCargo();
        cases.sameLiquid();
        cases.suits();
        cases.neighbourClashes();
        cases.clashWithItself();
        cases.washed();
        cases.nothingIsLeft();
        cases.pourAnswer();
        cases.pourUnknown();
        cases.pourOutside();
        cases.holdsTooLittle();
        cases.notAsTold();
    }

    /** One cargo, liquid 1, in the first of three tanks of 20. */
    private static CargoTanks oneHeld(int amount) {
        CargoTanks x = Ships.of(3, 20);
        x.cargo(1, amount, 1, 4, 8, 0);
        x.load();
        return x;
    }

    private void room() {
        d.sentence(TERMS, "POURING v from one TANK to another one: this has room for so much;");
        CargoTanks x = new CargoTanks();
        x.tank(99, 0, 0);
        x.tank(1, 1, 0);
        x.tank(10, 1, 0);
        Ships.easy(x, 1, 99);
        x.load();
        d.due("2 into 1", x.pour(0, 1, 2), STATE);
        d.due("1 into 1", x.pour(0, 1, 1), 1);
        d.due("1 into a full one", x.pour(0, 1, 1), STATE);
        d.due("11 into 10", x.pour(0, 2, 11), STATE);
        d.due("4 into 10", x.pour(0, 2, 4), 4);
        d.due("7 into the rest", x.pour(0, 2, 7), STATE);
        d.due("6 into the rest", x.pour(0, 2, 6), 10);
        d.due("it is full", x.pour(0, 2, 1), STATE);
        d.due("88 are left", x.ofTank(0, 8), 88);
        d.due("all back from the small one", x.pour(1, 0, 1), 89);
        d.due("and from the other one", x.pour(2, 0, 10), 99);
        d.due("nothing is left there", x.ofTank(2, 7), NONE);
    }

    private void sameCargo() {
        d.sentence(TERMS, "it holds the same CARGO,");
        CargoTanks x = Ships.of(2, 20);
        x.cargo(1, 30, 1, 4, 8, 2);
        x.load();
        x.neighbours(0, 1, true);
        x.latest(1, 0, 2);
        x.latest(1, 1, 3);
        x.washes(2, 1, 3);
        d.due("though it clashes and does not suit", x.pour(0, 1, 9), 19);
        d.due("not washed", x.many(3), 0);
        d.due("to the brim", x.pour(0, 1, 1), 20);
        d.due("back", x.pour(1, 0, 10), 20);
        d.due("10 stay", x.ofTank(1, 8), 10);
        d.due("what was last in it stays so", x.ofTank(1, 4), 2);
    }

    private void sameLiquid() {
        d.sentence(TERMS, "it holds the same CARGO, or it holds nothing,");
        CargoTanks x = Ships.of(3, 20);
        Ships.easy(x, 1, 10);
        Ships.easy(x, 1, 10);
        x.load();
        d.due("another cargo of the same liquid", x.pour(0, 1, 1), STATE);
        d.due("the other way about", x.pour(1, 0, 1), STATE);
        d.due("one that holds nothing", x.pour(0, 2, 1), 1);
        d.due("now it is of the first cargo", x.pour(1, 2, 1), STATE);
        x.pour(2, 0, 1);
        d.due("it holds nothing again", x.pour(1, 2, 10), 10);
        d.due("it is of the second cargo", x.ofTank(2, 7), 1);
        d.due("and the second tank holds nothing", x.pour(0, 1, 10), 10);
        d.due("so it is of the first one", x.ofTank(1, 7), 0);
    }

    private void suits() {
        d.sentence(TERMS, "SUITS it,");
        CargoTanks x = new CargoTanks();
        x.tank(20, 0, 0);
        x.tank(20, 3, 0);
        x.tank(20, 1, 0);
        x.cargo(1, 20, 9, 4, 8, 0);
        x.load();
        d.due("coat", x.pour(0, 2, 1), STATE);
        for (int liquid = 0; liquid < 8; liquid++) {
            x.latest(1, 0, liquid);
            boolean suits = liquid != 2 && liquid != 3;
            d.due("behind " + liquid, x.pour(0, 1, 2), suits ? 2 : STATE);
            x.pour(1, 0, 2);
            x.latest(1, 0, NONE);
            x.latest(1, 1, NONE);
            x.latest(1, 2, liquid);
            d.due("third " + liquid, x.pour(0, 1, 2), liquid == 3 ? STATE : 2);
            x.pour(1, 0, 2);
            x.latest(1, 1, NONE);
            x.latest(1, 2, NONE);
        }
        x.latest(0, 0, 2);
        x.latest(0, 1, 3);
        x.latest(1, 0, NONE);
        d.due("what was in the first one does not matter", x.pour(0, 1, 1), 1);
    }

    private void neighbourClashes() {
        d.sentence(TERMS, "and none of its NEIGHBOURS holds one that CLASHES with it");
        CargoTanks x = Ships.of(4, 20);
        x.cargo(1, 20, 1, 0, 0, 4);
        x.cargo(2, 20, 1, 0, 0, 0);
        x.load();
        x.neighbours(2, 1, true);
        d.due("told by the one that is poured", x.pour(0, 2, 1), STATE);
        d.due("beside its own, which does not clash", x.pour(1, 2, 1), 1);
        x.pour(2, 1, 1);
        x.neighbours(2, 0, true);
        d.due("told by the one in the neighbour", x.pour(1, 2, 1), STATE);
        x.neighbours(2, 0, false);
        x.neighbours(0, 1, true);
        d.due("the first one's neighbours do not matter", x.pour(1, 2, 1), 1);
        x.pour(2, 1, 1);
        x.neighbours(2, 1, false);
        x.neighbours(2, 3, true);
        d.due("a neighbour that holds nothing", x.pour(0, 2, 1), 1);
        d.due("a neighbour that holds the other one now", x.pour(1, 3, 1), STATE);
        x.unload(0);
        d.due("what was last in a neighbour does not matter", x.pour(1, 3, 1), 1);
    }

    private void clashWithItself() {
        d.sentence(TERMS, "none of its NEIGHBOURS holds one that CLASHES with it");
        CargoTanks x = Ships.of(4, 20);
        x.cargo(1, 20, 1, 0, 0, 2);
        x.load();
        x.neighbours(0, 1, true);
        d.due("the first tank is a neighbour", x.pour(0, 1, 5), STATE);
        d.due("it holds it when it is asked, though all is poured", x.pour(0, 1, 20), STATE);
        d.due("one that is no neighbour", x.pour(0, 2, 5), 5);
        x.neighbours(2, 3, true);
        d.due("a third tank is a neighbour", x.pour(0, 3, 5), STATE);
        d.due("it holds the same", x.pour(0, 2, 5), 10);
        x.neighbours(2, 0, true);
        d.due("though it became a neighbour", x.pour(0, 2, 10), 20);
    }

    private void washed() {
        d.sentence(TERMS, "(it is washed as it needs then).");
        CargoTanks x = oneHeld(20);
        for (int from = 0; from < 8; from++) {
            x.washes(from, 1, 3);
        }
        x.washes(5, 1, 2);
        d.due("nothing was in it", x.pour(0, 1, 5), 5);
        d.due("no wash", x.many(3), 0);
        x.latest(2, 1, 5);
        d.due("only the second one was", x.pour(0, 2, 5), 5);
        d.due("no wash", x.many(3), 0);
        d.due("back", x.pour(2, 0, 5), 15);
        x.latest(2, 0, 5);
        d.due("behind 5", x.pour(0, 2, 5), 5);
        d.due("two washes", x.many(3), 2);
        d.due("it holds it", x.pour(0, 2, 5), 10);
        d.due("no wash more", x.many(3), 2);
        d.due("a wash leaves its latest", x.ofTank(2, 4), 5);
        d.due("back", x.pour(2, 1, 10), 15);
        d.due("no wash of one that holds it", x.many(3), 2);
        d.due("behind its own liquid", x.pour(0, 2, 1), 1);
        d.due("three washes", x.many(3), 5);
    }

    private void nothingIsLeft() {
        d.sentence(TERMS, "If nothing is left in the first one, that is empty, and the LIQUID comes"
                + " ahead of the two first of its LATEST.");
        CargoTanks x = oneHeld(20);
        for (int k = 0; k < 3; k++) {
            x.latest(0, k, 5 + k);
        }
        d.due("19 of 20", x.pour(0, 1, 19), 19);
        int[] before = {5, 6, 7, 0, 1};
        for (int k = 0; k < 5; k++) {
            d.due("1 is left, what " + (4 + k), x.ofTank(0, 4 + k), before[k]);
        }
        d.due("and 1 to another tank", x.pour(0, 2, 1), 1);
        int[] after = {1, 5, 6, NONE, 0};
        for (int k = 0; k < 5; k++) {
            d.due("nothing is left, what " + (4 + k), x.ofTank(0, 4 + k), after[k]);
        }
        d.due("two hold something", x.many(2), 2);
        d.due("the second one's latest", x.ofTank(1, 4), NONE);
        d.due("all of that into the third", x.pour(2, 1, 1), 20);
        d.due("the third one's latest", x.ofTank(2, 4), 1);
        d.due("the third one's second", x.ofTank(2, 5), NONE);
        d.due("one tank held it", x.unload(0), 1);
        d.due("the first one's latest is not told again", x.ofTank(0, 5), 5);
    }

    private void pourAnswer() {
        d.sentence(21, "POURING v from a TANK to another one: how much that holds then.");
        CargoTanks x = Ships.of(6, 99);
        Ships.easy(x, 1, 99);
        x.load();
        d.due("1 to the last tank", x.pour(0, 5, 1), 1);
        d.due("97 more", x.pour(0, 5, 97), 98);
        d.due("and 1", x.pour(0, 5, 1), 99);
        d.due("all 99 to another one", x.pour(5, 3, 99), 99);
        d.due("it is there", x.ofTank(3, 8), 99);
        d.due("its cargo", x.ofTank(3, 7), 0);
        d.due("half of it", x.pour(3, 0, 49), 49);
        d.due("the rest", x.ofTank(3, 8), 50);
        d.due("the amount of the cargo stays", x.ofCargo(0, 1), 99);
    }

    private void pourUnknown() {
        d.sentence(21, "UNKNOWN: TANKS (they are one: so, too);");
        d.refused("there is no tank", CargoTanks::new, x -> x.pour(0, 1, 1), UNKNOWN);
        d.refused("there is one tank", () -> Ships.of(1, 9), x -> x.pour(0, 1, 1), UNKNOWN);
        for (int t = 0; t < 6; t++) {
            int one = t;
            d.refused("they are one: " + t, Ships::loaded, x -> x.pour(one, one, 1), UNKNOWN);
            d.refused("and 0: " + t, Ships::loaded, x -> x.pour(one, one, 0), UNKNOWN);
        }
        for (int wrong : new int[] {-1, 6, NONE, LEAST, MOST}) {
            d.refused("from " + wrong, Ships::loaded, x -> x.pour(wrong, 0, 1), UNKNOWN);
            d.refused("to " + wrong, Ships::loaded, x -> x.pour(0, wrong, 1), UNKNOWN);
            d.refused("to " + wrong + ", 100", Ships::loaded, x -> x.pour(0, wrong, 100), UNKNOWN);
            d.refused("both " + wrong, Ships::loaded, x -> x.pour(wrong, wrong, 1), UNKNOWN);
        }
    }

    private void pourOutside() {
        d.sentence(21, "OUTSIDE: v (1 .. 99);");
        for (int v : new int[] {0, -1, 100, 101, NONE, LEAST, MOST}) {
            d.refused("v " + v, () -> oneHeld(20), x -> x.pour(0, 1, v), OUTSIDE);
            d.refused("v " + v + ", it holds nothing", () -> oneHeld(20), x -> x.pour(1, 0, v), OUTSIDE);
        }
        d.due("v 1", oneHeld(20).pour(0, 1, 1), 1);
        d.refused("v 99, it holds 20", () -> oneHeld(20), x -> x.pour(0, 1, 99), STATE);
    }

    private void holdsTooLittle() {
        d.sentence(21, "STATE: the first one does not hold so much,");
        d.refused("11 of 10", () -> oneHeld(10), x -> x.pour(0, 1, 11), STATE);
        d.refused("2 of 1", () -> oneHeld(1), x -> x.pour(0, 1, 2), STATE);
        d.refused("1 of nothing", () -> oneHeld(10), x -> x.pour(1, 2, 1), STATE);
        d.refused("1 of nothing into one that holds it", () -> oneHeld(10), x -> x.pour(1, 0, 1), STATE);
        d.refused("not loaded", Ships::full, x -> x.pour(0, 1, 1), STATE);
        d.due("10 of 10", oneHeld(10).pour(0, 1, 10), 10);
        d.due("1 of 1", oneHeld(1).pour(0, 2, 1), 1);
    }

    private void notAsTold() {
        d.sentence(21, "or it is not as told.");
        d.refused("no room", PourCases::smallOne, x -> x.pour(0, 1, 6), STATE);
        d.refused("another cargo", PourCases::smallOne, x -> x.pour(0, 2, 1), STATE);
        d.refused("coat", PourCases::smallOne, x -> x.pour(0, 3, 1), STATE);
        d.refused("behind", PourCases::smallOne, x -> x.pour(0, 4, 1), STATE);
        d.refused("never", PourCases::smallOne, x -> x.pour(2, 4, 1), STATE);
        d.refused("clash", PourCases::smallOne, x -> x.pour(0, 5, 1), STATE);
        d.due("as told", smallOne().pour(0, 1, 5), 5);
        d.due("as told, the second one", smallOne().pour(2, 5, 20), 20);
    }

    private static CargoTanks smallOne() {
        CargoTanks x = new CargoTanks();
        x.tank(20, 0, 0);
        x.tank(5, 0, 0);
        x.tank(20, 0, 0);
        x.tank(20, 1, 0);
        x.tank(20, 0, 0);
        x.tank(20, 0, 0);
        x.cargo(1, 20, 1, 4, 0, 8);
        x.cargo(3, 20, 1, 0, 4, 0);
        x.load();
        x.latest(4, 0, 2);
        x.neighbours(5, 2, true);
        return x;
    }
}
