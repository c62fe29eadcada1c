/** BEST and TAKEN: the end of section 2 of the Terms, promises 17 and 18. */
final class BestCases {
    private static final int OUTSIDE = Doc.OUTSIDE, NONE = Doc.NONE, TERMS = Doc.TERMS,
            LEAST = Doc.LEAST, MOST = Doc.MOST;

    private final Doc d;

    private BestCases(Doc d) {
        this.d = d;
    }

    static void all(Doc d) {
        BestCases cases = new BestCases(d);
        cases.leastCost();
        cases.fewestTanks();
        cases.firstRow();
        cases.firstRowOfTwo();
        cases.mostAmounts();
        cases.fewestCargoes();
        cases.leastNumber();
        cases.bestNumbers();
        cases.bestList();
        cases.howManyAreRight();
        cases.howManyOfManyTanks();
        cases.bestOfATank();
        cases.noneIsRight();
        cases.bestSetOutside();
        cases.bestWhatOutside();
        cases.takenSet();
        cases.takenByTheRules();
    }

    private void row(String what, CargoTanks x, int set, int... want) {
        for (int t = 0; t < want.length; t++) {
            d.due(what + ", tank " + t, x.best(set, 10 + t), want[t]);
        }
    }

    private void fill(String what, CargoTanks x, int set, int... want) {
        for (int t = 0; t < want.length; t++) {
            d.due(what + ", in tank " + t, x.best(set, 20 + t), want[t]);
        }
    }

    /** Three tanks: the second and the third together are as large as the first. */
    private static CargoTanks oneOrTwo() {
        CargoTanks x = new CargoTanks();
        x.tank(20, 0, 0);
        x.tank(10, 0, 0);
        x.tank(10, 0, 0);
        Ships.easy(x, 1, 20);
        return x;
    }

    private void leastCost() {
        d.sentence(TERMS, "BEST for a set: of PLANS that are RIGHT the one of the least COST;");
        CargoTanks x = oneOrTwo();
        x.latest(0, 0, 5);
        x.washes(5, 1, 1);
        row("two tanks, no wash, ahead of one tank, one wash", x, 1, NONE, 0, 0);
        d.due("cost", x.best(1, 0), 0);
        x.latest(2, 0, 6);
        x.washes(6, 1, 2);
        row("one wash ahead of two", x, 1, 0, NONE, NONE);
        x.bound(0);
        x.washes(5, 1, 3);
        row("two washes ahead of three", x, 1, NONE, 0, 0);
        d.due("cost", x.best(1, 0), 2);
        CargoTanks y = new CargoTanks();
        y.tank(10, 0, 0);
        y.tank(10, 0, 1);
        Ships.easy(y, 1, 10);
        y.latest(0, 0, 5);
        y.washes(5, 1, 3);
        y.bound(9);
        row("the cheaper one is not right", y, 1, 0, NONE);
        d.due("so it costs", y.best(1, 0), 3);
        y.bound(10);
        row("it is right now", y, 1, NONE, 0);
    }

    private void fewestTanks() {
        d.sentence(TERMS, "of several that with the fewest TANKS that have a CARGO;");
        CargoTanks x = new CargoTanks();
        x.tank(10, 0, 0);
        x.tank(10, 0, 0);
        x.tank(20, 0, 0);
        Ships.easy(x, 1, 20);
        row("one tank, though its row is the last one", x, 1, NONE, NONE, 0);
        d.due("how many", x.best(1, 1), 1);
        x.latest(0, 0, 5);
        x.latest(2, 0, 5);
        x.washes(5, 1, 2);
        row("the same cost: still one tank", x, 1, NONE, NONE, 0);
        d.due("cost", x.best(1, 0), 2);
        d.due("of so many", x.best(1, 3), 4);
    }

    private void firstRow() {
        d.sentence(TERMS, "of several the first as a row of TANKS, NONE counted as greater than any"
                + " CARGO.");
        CargoTanks x = Ships.of(6, 10);
        for (int c = 0; c < 4; c++) {
            Ships.easy(x, c, 10);
        }
        row("the last cargo alone comes to the first tank", x, 8, 3, NONE, NONE, NONE, NONE, NONE);
        row("all by number, NONE last", x, 15, 0, 1, 2, 3, NONE, NONE);
        row("two of them", x, 10, 1, 3, NONE, NONE, NONE, NONE);
        row("none", x, 0, NONE, NONE, NONE, NONE, NONE, NONE);
        x.amount(3, 30);
        row("three tanks for the last one", x, 15, 0, 1, 2, 3, 3, 3);
        x.amount(0, 30);
        x.amount(3, 10);
        row("three tanks for the first one", x, 15, 0, 0, 0, 1, 2, 3);
    }

    private void firstRowOfTwo() {
        d.sentence(TERMS, "NONE counted as greater than any CARGO.");
        CargoTanks x = new CargoTanks();
        x.tank(10, 1, 0);
        x.tank(10, 0, 0);
        x.tank(10, 0, 0);
        x.cargo(1, 10, 1, 0, 0, 0);
        x.cargo(2, 10, 3, 0, 0, 0);
        row("the second cargo ahead of NONE", x, 3, 1, 0, NONE);
        row("the first one does not suit there", x, 1, NONE, 0, NONE);
        x.latest(0, 0, 4);
        x.washes(4, 2, 1);
        row("a wash more: NONE is first", x, 3, NONE, 0, 1);
        x.latest(1, 0, 4);
        x.latest(2, 0, 4);
        row("all the same: not NONE", x, 3, 1, 0, NONE);
    }

    private void mostAmounts() {
        d.sentence(TERMS, "TAKEN: of all sets of CARGOES for which some PLAN is RIGHT the one with"
                + " the most AMOUNTS together;");
        CargoTanks x = Ships.of(2, 10);
        Ships.easy(x, 0, 9);
        Ships.easy(x, 1, 10);
        Ships.easy(x, 2, 20);
        d.due("20 ahead of 19 in two", x.taken(), 4);
        x.amount(2, 18);
        d.due("19 in two ahead of 18", x.taken(), 3);
        x.amount(2, 21);
        d.due("21 do not fit", x.taken(), 3);
        Ships.easy(x, 3, 400);
        d.due("nor do 400", x.taken(), 3);
        x.tank(2, 0, 0);
        d.due("21 ahead of 19", x.taken(), 4);
        x.amount(0, 2);
        x.amount(2, 19);
        x.amount(3, 10);
        d.due("2, 10 and 10", x.taken(), 11);
    }

    private void fewestCargoes() {
        d.sentence(TERMS, "of several that with the fewest CARGOES;");
        CargoTanks x = Ships.of(4, 10);
        Ships.easy(x, 0, 10);
        Ships.easy(x, 1, 10);
        Ships.easy(x, 2, 20);
        Ships.easy(x, 3, 40);
        d.due("one of 40, though three of 40 are a lower number", x.taken(), 8);
        x.amount(3, 30);
        d.due("two of 40", x.taken(), 9);
        x.amount(3, 10);
        d.due("three of 40, none of two", x.taken(), 7);
        x.amount(2, 10);
        d.due("all four", x.taken(), 15);
    }

    private void leastNumber() {
        d.sentence(TERMS, "of several the least number.");
        CargoTanks x = Ships.of(1, 10);
        for (int c = 0; c < 4; c++) {
            Ships.easy(x, c, 10);
        }
        d.due("1 of 1, 2, 4, 8", x.taken(), 1);
        x.amount(0, 9);
        d.due("2 of 2, 4, 8", x.taken(), 2);
        x.amount(1, 11);
        d.due("4 of 4, 8", x.taken(), 4);
        x.amount(1, 10);
        x.tank(10, 0, 0);
        d.due("6 of 6, 10, 12", x.taken(), 6);
        x.amount(0, 10);
        d.due("3 of all twos", x.taken(), 3);
        x.tank(10, 0, 0);
        d.due("7 of all threes", x.taken(), 7);
    }

    private void bestNumbers() {
        d.sentence(17, "Of BEST for a set: 0 COST, 1 how many TANKS have a CARGO,");
        CargoTanks x = Ships.of(6, 10);
        Ships.easy(x, 1, 60);
        x.washes(0, 1, 3);
        for (int t = 0; t < 6; t++) {
            d.due("cost of " + t, x.best(1, 0), 3 * t);
            d.due("tanks", x.best(1, 1), 6);
            x.latest(t, 0, 0);
        }
        d.due("the most cost there is", x.best(1, 0), 18);
        x.amount(0, 1);
        d.due("one tank", x.best(1, 1), 1);
        d.due("its cost", x.best(1, 0), 3);
        d.due("no tank", x.best(0, 1), 0);
        d.due("no cost", x.best(0, 0), 0);
        CargoTanks none = new CargoTanks();
        d.due("there are no tanks: cost", none.best(0, 0), 0);
        d.due("there are no tanks: none", none.best(0, 1), 0);
        d.due("there are no tanks: list", none.best(0, 2), 100000);
    }

    private void bestList() {
        d.sentence(17, "2 LIST and 100000,");
        CargoTanks x = new CargoTanks();
        x.tank(99, 0, -9);
        x.tank(99, 0, 9);
        Ships.easy(x, 0, 99);
        d.due("below 0", x.best(1, 2), 100000 - 891);
        x.amount(0, 198);
        d.due("level", x.best(1, 2), 100000);
        x.amount(0, 197);
        d.due("9 off", x.best(1, 2), 100000 - 9);
        x.cargo(1, 99, 15, 0, 0, 0);
        x.amount(0, 98);
        d.due("9 off the other way", x.best(3, 2), 100009);
        x.latest(0, 0, 5);
        x.washes(5, 0, 1);
        d.due("the other one goes there", x.best(3, 2), 100000 - 9);
        d.due("no cargo", x.best(0, 2), 100000);
    }

    private void howManyAreRight() {
        d.sentence(17, "3 how many PLANS are RIGHT (0: none is),");
        CargoTanks x = Ships.of(6, 10);
        Ships.easy(x, 1, 10);
        int[] want = {6, 15, 20, 15, 6, 1, 0};
        for (int k = 0; k < 7; k++) {
            x.amount(0, 10 * (k + 1));
            d.due(k + 1 + " tanks", x.best(1, 3), want[k]);
            x.amount(0, 10 * k + 1);
            d.due(k + 1 + " tanks, the last one with 1", x.best(1, 3), want[k]);
        }
        d.due("the empty set", x.best(0, 3), 1);
        CargoTanks y = oneOrTwo();
        d.due("20 or 10 and 10", y.best(1, 3), 2);
        y.amount(0, 21);
        d.due("20 and 1, 20 and 1", y.best(1, 3), 2);
        y.amount(0, 31);
        d.due("all three", y.best(1, 3), 1);
        y.amount(0, 41);
        d.due("too much", y.best(1, 3), 0);
    }

    private void howManyOfManyTanks() {
        d.sentence(17, "3 how many PLANS are RIGHT (0: none is),");
        CargoTanks x = Ships.of(6, 1);
        int[] sets = {1, 3, 7, 15};
        int[] want = {6, 30, 120, 360};
        for (int c = 0; c < 4; c++) {
            Ships.easy(x, c, 1);
            d.due("one tank each of " + (c + 1), x.best(sets[c], 3), want[c]);
        }
        x.amount(3, 3);
        d.due("1, 1, 1 and 3", x.best(15, 3), 120);
        x.amount(2, 2);
        x.amount(3, 2);
        d.due("1, 1, 2 and 2", x.best(15, 3), 180);
        x.amount(1, 2);
        d.due("1, 2, 2 and 2", x.best(15, 3), 0);
        x.neighbours(0, 1, true);
        d.due("neighbours that do not clash", x.best(14, 3), 90);
        x.latest(5, 0, 7);
        d.due("what was in it does not matter", x.best(14, 3), 90);
    }

    private void bestOfATank() {
        d.sentence(17, "10 and t the CARGO of TANK t (NONE), 20 and t how much is in it;");
        CargoTanks x = new CargoTanks();
        int[] volumes = {1, 99, 2, 98, 3, 97};
        for (int volume : volumes) {
            x.tank(volume, 0, 0);
        }
        Ships.easy(x, 0, 300);
        row("300 are all", x, 1, 0, 0, 0, 0, 0, 0);
        fill("300 are all", x, 1, volumes);
        x.amount(0, 204);
        row("three tanks are the fewest", x, 1, NONE, 0, NONE, 0, NONE, 0);
        fill("they are filled by number", x, 1, 0, 99, 0, 98, 0, 7);
        x.amount(0, 1);
        row("1 in the first tank", x, 1, 0, NONE, NONE, NONE, NONE, NONE);
        fill("1 in the first tank", x, 1, 1, 0, 0, 0, 0, 0);
    }

    private void noneIsRight() {
        d.sentence(17, "NONE: no PLAN is RIGHT (but what 3).");
        CargoTanks x = Ships.of(6, 10);
        Ships.easy(x, 0, 61);
        Ships.easy(x, 1, 60);
        for (int set : new int[] {1, 3}) {
            for (int what : new int[] {0, 1, 2, 10, 11, 12, 13, 14, 15, 20, 21, 22, 23, 24, 25}) {
                d.due("set " + set + ", what " + what, x.best(set, what), NONE);
            }
            d.due("set " + set + ", what 3", x.best(set, 3), 0);
        }
        d.due("the second one alone", x.best(2, 3), 1);
        CargoTanks y = new CargoTanks();
        Ships.easy(y, 0, 1);
        d.due("no tanks, cost", y.best(1, 0), NONE);
        d.due("no tanks, plans", y.best(1, 3), 0);
        d.due("no tanks, tank 0", y.best(1, 10), OUTSIDE);
        CargoTanks z = Ships.of(1, 10);
        Ships.easy(z, 0, 10);
        d.due("it was right", z.best(1, 0), 0);
        z.amount(0, 11);
        d.due("it is right no more", z.best(1, 0), NONE);
        z.amount(0, 10);
        d.due("it is right again", z.best(1, 20), 10);
    }

    private void bestSetOutside() {
        d.sentence(17, "OUTSIDE: the set,");
        for (int count = 0; count < 5; count++) {
            int cargoes = count;
            for (int set : new int[] {1 << count, 16, 1 << 30, -1, NONE, LEAST, MOST}) {
                d.refused(count + " cargoes, set " + set, () -> withCargoes(cargoes),
                        x -> x.best(set, 3), OUTSIDE);
                d.refused(count + " cargoes, set " + set + ", what 4", () -> withCargoes(cargoes),
                        x -> x.best(set, 4), OUTSIDE);
            }
            d.due(count + " cargoes, all", withCargoes(count).best((1 << count) - 1, 1), count);
        }
    }

    private static CargoTanks withCargoes(int count) {
        CargoTanks x = Ships.of(4, 10);
        for (int c = 0; c < count; c++) {
            Ships.easy(x, c, 10);
        }
        return x;
    }

    private void bestWhatOutside() {
        d.sentence(17, "what (0 .. 3, 10 and 20 and a TANK).");
        for (int count = 0; count < 7; count++) {
            int tanks = count;
            for (int what : new int[] {-1, 4, 9, 10 + count, 19, 20 + count, 26, 30, 100, NONE, LEAST,
                LEAST + 9, LEAST + 19, MOST}) {
                d.refused(count + " tanks, what " + what, () -> Ships.of(tanks, 10),
                        x -> x.best(0, what), OUTSIDE);
            }
            for (int t = 0; t < count; t++) {
                d.due(count + " tanks, cargo of " + t, Ships.of(tanks, 10).best(0, 10 + t), NONE);
                d.due(count + " tanks, in " + t, Ships.of(tanks, 10).best(0, 20 + t), 0);
            }
        }
        d.refused("no plan is right, what 4", () -> tooMuch(), x -> x.best(1, 4), OUTSIDE);
        d.refused("no plan is right, what 11", () -> tooMuch(), x -> x.best(1, 11), OUTSIDE);
    }

    private static CargoTanks tooMuch() {
        CargoTanks x = Ships.of(1, 10);
        Ships.easy(x, 0, 11);
        return x;
    }

    private void takenSet() {
        d.sentence(18, "TAKEN, as a set.");
        CargoTanks x = new CargoTanks();
        d.due("nothing at all", x.taken(), 0);
        Ships.easy(x, 0, 1);
        d.due("no tanks", x.taken(), 0);
        for (int t = 0; t < 4; t++) {
            x.tank(1, 0, 0);
            d.due("tanks for so many", x.taken(), (2 << t) - 1);
            Ships.easy(x, t + 1, 1);
        }
        x.amount(3, 2);
        d.due("the last one is too large: 2 and two of 1", x.taken(), 11);
        x.amount(3, 5);
        d.due("5 do not fit", x.taken(), 7);
        for (int c = 0; c < 4; c++) {
            x.amount(c, 400);
        }
        d.due("none fits", x.taken(), 0);
    }

    private void takenByTheRules() {
        d.sentence(18, "TAKEN, as a set.");
        CargoTanks x = new CargoTanks();
        x.tank(10, 0, 1);
        x.tank(10, 0, -1);
        x.cargo(1, 10, 1, 0, 0, 0);
        x.cargo(2, 9, 1, 4, 8, 2);
        d.due("both", x.taken(), 3);
        x.bound(0);
        d.due("1 off", x.taken(), 0);
        x.bound(1);
        d.due("1 off, and bound 1", x.taken(), 3);
        x.neighbours(0, 1, true);
        d.due("clash, and alone too far off", x.taken(), 0);
        x.bound(9);
        d.due("the second one alone", x.taken(), 2);
        x.bound(10);
        d.due("the first one alone", x.taken(), 1);
        x.neighbours(0, 1, false);
        x.latest(0, 0, 2);
        x.latest(1, 2, 3);
        d.due("the second one suits neither", x.taken(), 1);
        x.latest(1, 2, NONE);
        d.due("it suits one", x.taken(), 3);
        x.load();
        d.due("at sea, too", x.taken(), 3);
    }
}
