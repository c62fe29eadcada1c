/** Tanks and what was last in them: section 1 of the Terms, promises 1 to 4, and 10. */
final class TankCases {
    private static final int UNKNOWN = Doc.UNKNOWN, OUTSIDE = Doc.OUTSIDE, FULL = Doc.FULL,
            NONE = Doc.NONE, TERMS = Doc.TERMS, LEAST = Doc.LEAST, MOST = Doc.MOST;

    private final Doc d;

    private TankCases(Doc d) {
        this.d = d;
    }

    static void all(Doc d) {
        TankCases cases = new TankCases(d);
        cases.liquids();
        cases.sixTanks();
        cases.numbersOfATank();
        cases.threeLatest();
        cases.mayBeNeighbour();
        cases.holdsNothingAtFirst();
        cases.newObject();
        cases.tankNumber();
        cases.tankRefusals();
        cases.neighboursAnswer();
        cases.neighboursRefusals();
        cases.latestAnswer();
        cases.latestRefusals();
        cases.ofTankAnswers();
        cases.ofTankAtSea();
        cases.ofTankRefusals();
    }

    private void liquids() {
        d.sentence(TERMS, "LIQUIDS 0 .. 7.");
        for (int liquid = 0; liquid < 8; liquid++) {
            CargoTanks x = Ships.of(1, 10);
            d.due("latest " + liquid, x.latest(0, 0, liquid), NONE);
            d.due("it stands", x.ofTank(0, 4), liquid);
            d.due("cargo " + liquid, Ships.easy(x, liquid, 1), 0);
            d.due("it stands", x.ofCargo(0, 0), liquid);
            d.due("washes", x.washes(liquid, 7 - liquid, 1), 0);
        }
        for (int wrong : new int[] {-1, 8, 9, NONE, LEAST, MOST}) {
            d.refused("cargo " + wrong, CargoTanks::new, x -> x.cargo(wrong, 1, 1, 0, 0, 0), UNKNOWN);
            d.refused("washes from " + wrong, CargoTanks::new, x -> x.washes(wrong, 0, 0), UNKNOWN);
            d.refused("washes to " + wrong, CargoTanks::new, x -> x.washes(0, wrong, 0), UNKNOWN);
        }
    }

    private void sixTanks() {
        d.sentence(TERMS, "TANKS, 6 at most, numbered from 0 on as they come:");
        CargoTanks x = new CargoTanks();
        for (int t = 0; t < 6; t++) {
            d.due("before it comes", x.ofTank(t, 0), UNKNOWN);
            d.due("how many", x.many(0), t);
            d.due("tank " + t, x.tank(t + 1, 0, 0), t);
            d.due("it is that one", x.ofTank(t, 0), t + 1);
        }
        d.due("how many", x.many(0), 6);
        d.due("the seventh", x.tank(7, 0, 0), FULL);
        d.due("it did not come", x.ofTank(6, 0), UNKNOWN);
        d.due("the first one stays", x.ofTank(0, 0), 1);
        d.due("the last one stays", x.ofTank(5, 0), 6);
    }

    private void numbersOfATank() {
        d.sentence(TERMS, "each has a VOLUME (1 .. 99), a COAT (0 .. 3), a LEVER (-9 .. 9),");
        int[][] good = {{1, 0, -9}, {99, 3, 9}, {1, 3, 0}, {99, 0, 0}, {50, 1, -1}, {2, 2, 1}};
        CargoTanks x = new CargoTanks();
        for (int t = 0; t < good.length; t++) {
            d.due("tank " + t, x.tank(good[t][0], good[t][1], good[t][2]), t);
        }
        for (int t = 0; t < good.length; t++) {
            d.due("volume of " + t, x.ofTank(t, 0), good[t][0]);
            d.due("coat of " + t, x.ofTank(t, 1), good[t][1]);
            d.due("lever of " + t + " and 10", x.ofTank(t, 2), good[t][2] + 10);
        }
        CargoTanks y = new CargoTanks();
        y.tank(99, 0, 0);
        Ships.easy(y, 0, 99);
        d.due("99 are filled into 99", y.best(1, 20), 99);
        y.amount(0, 100);
        d.due("100 are not", y.best(1, 3), 0);
    }

    private void threeLatest() {
        d.sentence(TERMS, "three LATEST liquids (the last one first; each a LIQUID or NONE; none at"
                + " first),");
        CargoTanks x = Ships.of(1, 10);
        for (int k = 0; k < 3; k++) {
            d.due("at first " + k, x.ofTank(0, 4 + k), NONE);
        }
        for (int liquid = 0; liquid < 3; liquid++) {
            Ships.easy(x, liquid + 3, 10 - liquid);
        }
        Ships.easy(x, 6, 1);
        int[][] want = {{3, NONE, NONE}, {4, 3, NONE}, {5, 4, 3}, {6, 5, 4}};
        for (int c = 0; c < 4; c++) {
            d.due("load " + c, x.load(), 0);
            d.due("unload " + c, x.unload(c), 1);
            for (int k = 0; k < 3; k++) {
                d.due("latest " + k, x.ofTank(0, 4 + k), want[c][k]);
            }
            x.amount(c, 11);
        }
    }

    private void mayBeNeighbour() {
        d.sentence(TERMS, "may be a NEIGHBOUR of others,");
        CargoTanks x = Ships.of(6, 10);
        for (int t = 0; t < 6; t++) {
            d.due("of none at first", x.ofTank(t, 3), 0);
        }
        for (int i = 0; i < 6; i++) {
            for (int j = i + 1; j < 6; j++) {
                d.due("they become", x.neighbours(i, j, true), 1);
            }
        }
        for (int t = 0; t < 6; t++) {
            d.due("of all others, not of itself", x.ofTank(t, 3), 63 - (1 << t));
        }
        CargoTanks y = Ships.of(5, 10);
        y.neighbours(0, 4, true);
        y.tank(10, 0, 0);
        d.due("one that comes is of none", y.ofTank(5, 3), 0);
    }

    private void holdsNothingAtFirst() {
        d.sentence(TERMS, "and holds a CARGO, so much of it, or nothing (at first).");
        CargoTanks x = Ships.of(3, 10);
        Ships.easy(x, 0, 1);
        Ships.easy(x, 1, 10);
        for (int t = 0; t < 3; t++) {
            d.due("no cargo", x.ofTank(t, 7), NONE);
            d.due("nothing of it", x.ofTank(t, 8), 0);
        }
        x.load();
        d.due("the first cargo", x.ofTank(0, 7), 0);
        d.due("1 of it", x.ofTank(0, 8), 1);
        d.due("the second cargo", x.ofTank(1, 7), 1);
        d.due("10 of it", x.ofTank(1, 8), 10);
        d.due("no cargo", x.ofTank(2, 7), NONE);
        d.due("nothing of it", x.ofTank(2, 8), 0);
        x.tank(10, 0, 0);
        d.due("a tank that comes at sea: no cargo", x.ofTank(3, 7), NONE);
        d.due("a tank that comes at sea: nothing", x.ofTank(3, 8), 0);
    }

    private void newObject() {
        d.sentence(1, "No TANKS, no CARGOES.");
        CargoTanks x = new CargoTanks();
        d.due("tanks", x.many(0), 0);
        d.due("cargoes", x.many(1), 0);
        d.due("tank 0", x.ofTank(0, 0), UNKNOWN);
        d.due("cargo 0", x.ofCargo(0, 0), UNKNOWN);
        d.due("tanks in use", x.many(2), 0);
        d.due("washes", x.many(3), 0);
        d.due("list", x.many(4), 100000);
        d.due("the plan's list", x.ofPlan(2), 100000);
        d.due("the empty plan is right", x.broken(0), 0);
        d.due("the one plan there is", x.best(0, 3), 1);
        d.due("taken", x.taken(), 0);
        CargoTanks other = Ships.full();
        d.due("another object's tanks", other.many(0), 6);
        d.due("are not this one's", x.many(0), 0);
        d.due("nor its bound", x.bound(9), 9999);
        d.due("nor its washes", x.washes(1, 1, 0), 0);
    }

    private void tankNumber() {
        d.sentence(2, "A TANK: its number.");
        CargoTanks x = new CargoTanks();
        d.due("refused", x.tank(0, 0, 0), OUTSIDE);
        d.due("the first one, behind a refusal", x.tank(1, 0, 0), 0);
        d.due("refused", x.tank(1, 4, 0), OUTSIDE);
        d.due("the second one", x.tank(1, 0, 0), 1);
        Ships.easy(x, 0, 2);
        x.load();
        d.due("one that comes at sea", x.tank(1, 0, 0), 2);
    }

    private void tankRefusals() {
        d.sentence(2, "OUTSIDE; FULL.");
        for (int volume : new int[] {0, -1, 100, 101, NONE, LEAST, MOST}) {
            d.refused("volume " + volume, CargoTanks::new, x -> x.tank(volume, 0, 0), OUTSIDE);
        }
        for (int coat : new int[] {-1, 4, 5, NONE, LEAST, MOST}) {
            d.refused("coat " + coat, CargoTanks::new, x -> x.tank(1, coat, 0), OUTSIDE);
        }
        for (int lever : new int[] {-10, 10, -11, 11, LEAST, MOST}) {
            d.refused("lever " + lever, CargoTanks::new, x -> x.tank(1, 0, lever), OUTSIDE);
        }
        d.refused("all three", CargoTanks::new, x -> x.tank(0, 4, 10), OUTSIDE);
        d.refused("the seventh, least", Ships::full, x -> x.tank(1, 0, -9), FULL);
        d.refused("the seventh, greatest", Ships::full, x -> x.tank(99, 3, 9), FULL);
        d.refused("the seventh and the eighth", Ships::full,
                x -> Math.max(x.tank(1, 0, 0), x.tank(1, 0, 0)), FULL);
        d.refused("the seventh at sea", Ships::loaded, x -> x.tank(1, 0, 0), FULL);
        d.refused("the seventh, volume, too", Ships::full, x -> x.tank(100, 0, 0), OUTSIDE);
    }

    private void neighboursAnswer() {
        d.sentence(3, "Two TANKS are NEIGHBOURS (true), or are not: 1; 0: it was so.");
        for (int i = 0; i < 6; i++) {
            for (int j = 0; j < 6; j++) {
                if (i != j) {
                    CargoTanks x = Ships.of(6, 10);
                    d.due("they were not", x.neighbours(i, j, false), 0);
                    d.due("they become", x.neighbours(i, j, true), 1);
                    d.due("they were", x.neighbours(i, j, true), 0);
                    d.due("the other way about", x.neighbours(j, i, true), 0);
                    d.due("of the first", x.ofTank(i, 3), 1 << j);
                    d.due("of the second", x.ofTank(j, 3), 1 << i);
                    d.due("no more", x.neighbours(j, i, false), 1);
                    d.due("they were not", x.neighbours(i, j, false), 0);
                    d.due("of the first, none", x.ofTank(i, 3), 0);
                    d.due("of the second, none", x.ofTank(j, 3), 0);
                }
            }
        }
    }

    private void neighboursRefusals() {
        d.sentence(3, "UNKNOWN: TANKS (they are one: so, too).");
        for (boolean is : new boolean[] {true, false}) {
            d.refused("there is no tank", CargoTanks::new, x -> x.neighbours(0, 0, is), UNKNOWN);
            d.refused("there is one tank", () -> Ships.of(1, 9), x -> x.neighbours(0, 1, is), UNKNOWN);
            for (int t = 0; t < 6; t++) {
                int one = t;
                d.refused("they are one: " + t, Ships::full, x -> x.neighbours(one, one, is), UNKNOWN);
            }
            for (int wrong : new int[] {-1, 6, 7, 32, NONE, LEAST, MOST}) {
                d.refused("first " + wrong, Ships::full, x -> x.neighbours(wrong, 0, is), UNKNOWN);
                d.refused("second " + wrong, Ships::full, x -> x.neighbours(5, wrong, is), UNKNOWN);
                d.refused("both " + wrong, Ships::full, x -> x.neighbours(wrong, wrong, is), UNKNOWN);
            }
        }
    }

    private void latestAnswer() {
        d.sentence(4, "A LATEST of a TANK (0 the last one, 1, 2) becomes a LIQUID, or NONE: what it"
                + " was.");
        for (int k = 0; k < 3; k++) {
            CargoTanks x = Ships.of(6, 10);
            int was = NONE;
            for (int liquid : new int[] {0, 7, 7, NONE, NONE, 3}) {
                d.due("what it was", x.latest(5, k, liquid), was);
                d.due("what it is", x.ofTank(5, 4 + k), liquid);
                d.due("another place stays", x.ofTank(5, 4 + (k + 1) % 3), NONE);
                d.due("another tank stays", x.ofTank(4, 4 + k), NONE);
                was = liquid;
            }
        }
        CargoTanks y = Ships.of(1, 10);
        Ships.easy(y, 2, 10);
        y.load();
        d.due("of a tank that holds something", y.latest(0, 0, 6), NONE);
        d.due("it holds it still", y.ofTank(0, 8), 10);
    }

    private void latestRefusals() {
        d.sentence(4, "UNKNOWN: TANK; OUTSIDE.");
        d.refused("there is no tank", CargoTanks::new, x -> x.latest(0, 0, 0), UNKNOWN);
        for (int t : new int[] {-1, 6, NONE, LEAST, MOST}) {
            d.refused("tank " + t, Ships::full, x -> x.latest(t, 0, 0), UNKNOWN);
            d.refused("tank " + t + ", all", Ships::full, x -> x.latest(t, 3, 8), UNKNOWN);
        }
        for (int k : new int[] {-1, 3, 4, NONE, LEAST, MOST}) {
            d.refused("place " + k, Ships::full, x -> x.latest(0, k, 0), OUTSIDE);
            d.refused("place " + k + ", NONE", Ships::full, x -> x.latest(0, k, NONE), OUTSIDE);
        }
        for (int liquid : new int[] {-1, 8, -8, -10, 16, LEAST, MOST}) {
            d.refused("liquid " + liquid, Ships::full, x -> x.latest(0, 0, liquid), OUTSIDE);
            d.refused("liquid " + liquid, Ships::full, x -> x.latest(5, 2, liquid), OUTSIDE);
        }
    }

    private void ofTankAnswers() {
        d.sentence(10, "Of a TANK: 0 VOLUME, 1 COAT, 2 LEVER and 10, 3 NEIGHBOURS, as a set, 4, 5, 6"
                + " its LATEST (NONE),");
        CargoTanks x = new CargoTanks();
        x.tank(1, 0, -9);
        x.tank(99, 3, 9);
        x.tank(40, 1, 0);
        x.neighbours(0, 1, true);
        x.neighbours(2, 0, true);
        x.latest(0, 2, 7);
        x.latest(1, 0, 0);
        x.latest(1, 1, 5);
        int[][] want = {{1, 0, 1, 6, NONE, NONE, 7, NONE, 0}, {99, 3, 19, 1, 0, 5, NONE, NONE, 0},
            {40, 1, 10, 1, NONE, NONE, NONE, NONE, 0}};
        for (int t = 0; t < 3; t++) {
            for (int what = 0; what < 9; what++) {
                d.due("tank " + t + ", what " + what, x.ofTank(t, what), want[t][what]);
            }
        }
    }

    private void ofTankAtSea() {
        d.sentence(10, "7 the CARGO it holds (NONE), 8 how much of it.");
        CargoTanks x = Ships.of(3, 99);
        Ships.easy(x, 4, 100);
        x.load();
        int[][] want = {{0, 99}, {0, 1}, {NONE, 0}};
        for (int t = 0; t < 3; t++) {
            d.due("cargo in " + t, x.ofTank(t, 7), want[t][0]);
            d.due("how much in " + t, x.ofTank(t, 8), want[t][1]);
        }
        x.unload(0);
        for (int t = 0; t < 3; t++) {
            d.due("cargo in " + t, x.ofTank(t, 7), NONE);
            d.due("how much in " + t, x.ofTank(t, 8), 0);
        }
    }

    private void ofTankRefusals() {
        d.sentence(10, "UNKNOWN; OUTSIDE.");
        d.refused("there is no tank", CargoTanks::new, x -> x.ofTank(0, 0), UNKNOWN);
        d.refused("tank 1 of one", () -> Ships.of(1, 9), x -> x.ofTank(1, 0), UNKNOWN);
        for (int t : new int[] {-1, 6, NONE, LEAST, MOST}) {
            d.refused("tank " + t, Ships::loaded, x -> x.ofTank(t, 8), UNKNOWN);
            d.refused("tank " + t + ", what 9", Ships::loaded, x -> x.ofTank(t, 9), UNKNOWN);
        }
        for (int what : new int[] {-1, 9, 10, NONE, LEAST, MOST}) {
            d.refused("what " + what, Ships::loaded, x -> x.ofTank(5, what), OUTSIDE);
        }
    }
}
