/** THE PLAN and the rules it may break: section 2 of the Terms, promises 14 to 16. */
final class PlanCases {
    private static final int UNKNOWN = Doc.UNKNOWN, OUTSIDE = Doc.OUTSIDE, NONE = Doc.NONE,
            TERMS = Doc.TERMS, LEAST = Doc.LEAST, MOST = Doc.MOST;

    private final Doc d;

    private PlanCases(Doc d) {
        this.d = d;
    }

    static void all(Doc d) {
        PlanCases cases = new PlanCases(d);
        cases.eachTankHasOneOrNone();
        cases.filledByNumber();
        cases.list();
        cases.rulesInOrder();
        cases.rule1();
        cases.rule2();
        cases.rule3();
        cases.rule4();
        cases.rule5();
        cases.rule6();
        cases.boundOfRule6();
        cases.cost();
        cases.planAnswer();
        cases.planOfOneThatComes();
        cases.planRefusals();
        cases.brokenAnswers();
        cases.brokenRefusals();
        cases.ofPlanAnswers();
        cases.ofPlanFillsAsFarAsTheyGo();
        cases.ofPlanRefusals();
    }

    private static void tell(CargoTanks x, int... row) {
        for (int t = 0; t < row.length; t++) {
            x.plan(t, row[t]);
        }
    }

    private void eachTankHasOneOrNone() {
        d.sentence(TERMS, "A PLAN tells for each TANK a CARGO or NONE.");
        CargoTanks x = Ships.of(6, 10);
        for (int c = 0; c < 4; c++) {
            Ships.easy(x, c, 10);
        }
        int[] row = {3, NONE, 0, 1, NONE, 2};
        tell(x, row);
        d.due("four tanks have one", x.ofPlan(1), 4);
        d.due("right for all", x.broken(15), 0);
        for (int t = 0; t < 6; t++) {
            d.due("tank " + t, x.plan(t, NONE), row[t]);
        }
        d.due("none has one", x.ofPlan(1), 0);
    }

    private void filledByNumber() {
        d.sentence(TERMS, "CARGOES of a set are STOWED by it: no TANK has another one, and of each of"
                + " them: its TANKS are filled by number, each as full as may be, till all of its"
                + " AMOUNT is in.");
        CargoTanks x = new CargoTanks();
        x.tank(10, 0, 1);
        x.tank(20, 0, 2);
        x.tank(30, 0, 3);
        Ships.easy(x, 0, 31);
        Ships.easy(x, 1, 20);
        tell(x, 0, 0, 0);
        d.due("10, 20, and 1 is left for the third", x.ofPlan(2), 100000 + 10 + 40 + 3);
        x.amount(0, 30);
        d.due("10, 20, and the third stays empty", x.ofPlan(2), 100000 + 10 + 40);
        x.amount(0, 1);
        d.due("1, and two stay empty", x.ofPlan(2), 100001);
        x.amount(0, 40);
        tell(x, 0, 1, 0);
        d.due("10 and 30, the other one between them", x.ofPlan(2), 100000 + 10 + 40 + 90);
        d.due("both are stowed", x.broken(3), 0);
        d.due("a tank has another one", x.broken(1), 1);
        tell(x, NONE, 0, NONE);
        d.due("20 of 40", x.ofPlan(2), 100040);
    }

    private void list() {
        d.sentence(TERMS, "LIST of a PLAN: what is in each TANK times its LEVER, of all together.");
        for (int lever : new int[] {-9, 9}) {
            CargoTanks x = new CargoTanks();
            for (int t = 0; t < 6; t++) {
                x.tank(99, 0, lever);
            }
            Ships.easy(x, 0, 297);
            Ships.easy(x, 1, 297);
            tell(x, 0, 0, 0, 1, 1, 1);
            d.due("the farthest there is", x.ofPlan(2), 100000 + 594 * lever);
            d.due("within 9999", x.broken(3), 0);
            d.due("of the best", x.best(3, 2), 100000 + 594 * lever);
        }
        CargoTanks y = new CargoTanks();
        y.tank(10, 0, -9);
        y.tank(10, 0, 9);
        y.tank(10, 0, 0);
        Ships.easy(y, 0, 30);
        tell(y, 0, 0, 0);
        d.due("both sides alike, and none", y.ofPlan(2), 100000);
    }

    /** A plan that breaks every rule; then one after the other is mended. */
    private void rulesInOrder() {
        d.sentence(TERMS, "A PLAN is RIGHT for a set, if by these rules, in this order, none is"
                + " broken:");
        CargoTanks x = new CargoTanks();
        for (int t = 0; t < 4; t++) {
            x.tank(10, t == 3 ? 1 : 0, 9);
        }
        x.neighbours(0, 1, true);
        x.bound(0);
        x.cargo(0, 10, 1, 0, 0, 1);
        Ships.easy(x, 1, 11);
        Ships.easy(x, 2, 10);
        tell(x, 0, 0, 1, 0);
        d.due("all six", x.broken(5), 1);
        d.due("all but 1", x.broken(7), 2);
        tell(x, 0, 0, 1, NONE);
        d.due("3, 4, 5, 6", x.broken(7), 3);
        x.neighbours(0, 1, false);
        d.due("4, 5, 6", x.broken(7), 4);
        x.amount(1, 10);
        d.due("4 of the third one, 5, 6", x.broken(7), 4);
        d.due("5, 6", x.broken(3), 5);
        x.plan(1, NONE);
        d.due("6", x.broken(3), 6);
        x.bound(180);
        d.due("none", x.broken(3), 0);
    }

    private void rule1() {
        d.sentence(TERMS, "1 no TANK has a CARGO that is not of the set;");
        CargoTanks x = Ships.of(6, 10);
        for (int c = 0; c < 4; c++) {
            Ships.easy(x, c, 10);
        }
        for (int set = 0; set < 16; set++) {
            d.due("no tank has any, set " + set, x.broken(set), set == 0 ? 0 : 4);
        }
        x.plan(5, 3);
        for (int set = 0; set < 16; set++) {
            d.due("the last one has the last one, set " + set, x.broken(set),
                    set < 8 ? 1 : set == 8 ? 0 : 4);
        }
        x.plan(0, 0);
        d.due("one is of the set, the other one is not", x.broken(8), 1);
        d.due("the other way about", x.broken(1), 1);
        d.due("both are", x.broken(9), 0);
    }

    private void rule2() {
        d.sentence(TERMS, "2 each TANK SUITS the CARGO it has;");
        CargoTanks x = new CargoTanks();
        for (int t = 0; t < 6; t++) {
            x.tank(10, 0, 0);
        }
        x.cargo(1, 60, 1, 4, 8, 0);
        tell(x, 0, 0, 0, 0, 0, 0);
        d.due("all suit", x.broken(1), 0);
        x.latest(5, 0, 2);
        d.due("the last tank: behind", x.broken(1), 2);
        x.latest(5, 0, NONE);
        x.latest(5, 2, 3);
        d.due("the last tank: never", x.broken(1), 2);
        x.latest(5, 2, 2);
        d.due("behind counts for the last one alone", x.broken(1), 0);
        x.latest(0, 1, 3);
        d.due("the first tank: never", x.broken(1), 2);
        x.plan(0, NONE);
        d.due("a tank that has none need not suit", x.broken(1), 4);
        x.uncargo();
        x.cargo(1, 60, 14, 0, 0, 0);
        x.plan(3, 0);
        d.due("coat", x.broken(1), 2);
    }

    private void rule3() {
        d.sentence(TERMS, "3 no two NEIGHBOURS have CARGOES that CLASH (a CARGO clashes with itself,"
                + " if it does by its own LIQUID);");
        CargoTanks x = Ships.of(6, 10);
        x.cargo(1, 10, 1, 0, 0, 4);
        x.cargo(2, 10, 1, 0, 0, 0);
        tell(x, NONE, 1, NONE, NONE, NONE, 0);
        d.due("no neighbours", x.broken(3), 0);
        x.neighbours(1, 5, true);
        d.due("neighbours", x.broken(3), 3);
        tell(x, NONE, 0, NONE, NONE, NONE, 1);
        d.due("the other way about", x.broken(3), 3);
        tell(x, NONE, NONE, 0, NONE, NONE, 1);
        d.due("the neighbour has none", x.broken(3), 0);
        CargoTanks y = Ships.of(2, 10);
        y.cargo(1, 20, 1, 0, 0, 2);
        tell(y, 0, 0);
        d.due("clashes with itself, no neighbours", y.broken(1), 0);
        y.neighbours(1, 0, true);
        d.due("clashes with itself, neighbours", y.broken(1), 3);
        y.amount(0, 10);
        d.due("though the second one would stay empty", y.broken(1), 3);
        y.plan(1, NONE);
        d.due("one tank alone", y.broken(1), 0);
    }

    private void rule4() {
        d.sentence(TERMS, "4 of each of the set the VOLUMES of its TANKS together are no less than"
                + " AMOUNT;");
        CargoTanks x = new CargoTanks();
        x.tank(1, 0, 0);
        x.tank(99, 0, 0);
        Ships.easy(x, 0, 1);
        tell(x, 0);
        d.due("1 in 1", x.broken(1), 0);
        x.amount(0, 2);
        d.due("2 in 1", x.broken(1), 4);
        tell(x, 0, 0);
        x.amount(0, 100);
        d.due("100 in 1 and 99", x.broken(1), 0);
        x.amount(0, 101);
        d.due("101 in 1 and 99", x.broken(1), 4);
        x.amount(0, 1);
        Ships.easy(x, 1, 1);
        tell(x, 0, NONE);
        d.due("one of the set has no tank", x.broken(3), 4);
        d.due("that is not of the set", x.broken(1), 0);
        CargoTanks y = Ships.of(6, 99);
        Ships.easy(y, 0, 400);
        tell(y, 0, 0, 0, 0, NONE, NONE);
        d.due("400 in 396", y.broken(1), 4);
        y.plan(5, 0);
        d.due("400 in 495", y.broken(1), 0);
    }

    private void rule5() {
        d.sentence(TERMS, "5 none of its TANKS would stay empty;");
        CargoTanks x = new CargoTanks();
        x.tank(10, 0, 0);
        x.tank(5, 0, 0);
        x.tank(1, 0, 0);
        Ships.easy(x, 0, 15);
        tell(x, 0, 0, 0);
        d.due("nothing is left for the third", x.broken(1), 5);
        x.amount(0, 16);
        d.due("1 is left for the third", x.broken(1), 0);
        x.amount(0, 10);
        tell(x, 0, NONE, 0);
        d.due("the first one takes all", x.broken(1), 5);
        tell(x, 0, NONE, NONE);
        d.due("it has no other", x.broken(1), 0);
        tell(x, NONE, 0, 0);
        x.amount(0, 5);
        d.due("the second one takes all", x.broken(1), 5);
        d.due("the best has no such tank", x.best(1, 1), 1);
        d.due("right are the first, the second", x.best(1, 3), 2);
    }

    private void rule6() {
        d.sentence(TERMS, "6 LIST without its sign is no more than BOUND");
        for (int lever : new int[] {-1, 1}) {
            CargoTanks x = new CargoTanks();
            x.tank(10, 0, lever);
            Ships.easy(x, 0, 10);
            tell(x, 0);
            int[] bounds = {11, 10, 9, 0};
            int[] want = {0, 0, 6, 6};
            for (int k = 0; k < 4; k++) {
                x.bound(bounds[k]);
                d.due("10 times " + lever + ", bound " + bounds[k], x.broken(1), want[k]);
                d.due("plans", x.best(1, 3), want[k] == 0 ? 1 : 0);
            }
            d.due("no cargo, bound 0", x.best(0, 3), 1);
        }
        CargoTanks y = new CargoTanks();
        y.tank(10, 0, -3);
        y.tank(10, 0, 3);
        Ships.easy(y, 0, 20);
        tell(y, 0, 0);
        y.bound(0);
        d.due("level, bound 0", y.broken(1), 0);
        y.amount(0, 19);
        d.due("3 off, bound 0", y.broken(1), 6);
        y.bound(2);
        d.due("3 off, bound 2", y.broken(1), 6);
        y.bound(3);
        d.due("3 off, bound 3", y.broken(1), 0);
    }

    private void boundOfRule6() {
        d.sentence(TERMS, "(0 .. 9999; 9999 at first).");
        d.due("at first", new CargoTanks().bound(9999), 9999);
        d.due("0", new CargoTanks().bound(0), 9999);
        d.due("-1", new CargoTanks().bound(-1), OUTSIDE);
        d.due("10000", new CargoTanks().bound(10000), OUTSIDE);
        CargoTanks x = new CargoTanks();
        for (int t = 0; t < 6; t++) {
            x.tank(99, 0, 9);
        }
        Ships.easy(x, 0, 297);
        Ships.easy(x, 1, 297);
        tell(x, 0, 1, 0, 1, 0, 1);
        d.due("the farthest there is", x.broken(3), 0);
        x.bound(5346);
        d.due("just so far", x.broken(3), 0);
        x.bound(5345);
        d.due("one less", x.broken(3), 6);
    }

    private void cost() {
        d.sentence(TERMS, "COST of a PLAN: WASHES of all TANKS that have a CARGO, together.");
        CargoTanks x = Ships.of(6, 10);
        Ships.easy(x, 1, 60);
        x.washes(0, 1, 3);
        for (int t = 0; t < 6; t++) {
            d.due("cost of " + t, x.ofPlan(0), 3 * t);
            x.latest(t, 0, 0);
            d.due("a tank that has none costs nothing", x.ofPlan(0), 3 * t);
            x.plan(t, 0);
        }
        d.due("the most there is", x.ofPlan(0), 18);
        d.due("of the best", x.best(1, 0), 18);
        x.latest(0, 0, NONE);
        d.due("one in which nothing was", x.ofPlan(0), 15);
    }

    private void planAnswer() {
        d.sentence(14, "tells a CARGO for a TANK, or NONE: what it told.");
        CargoTanks x = Ships.full();
        int was = NONE;
        for (int c : new int[] {0, 3, 3, NONE, NONE, 1}) {
            d.due("what it told", x.plan(5, c), was);
            was = c;
        }
        d.due("of another tank it stays", x.plan(4, 3), 3);
        x.load();
        d.due("at sea it stays", x.plan(5, NONE), 1);
    }

    private void planOfOneThatComes() {
        d.sentence(14, "THE PLAN (NONE for all TANKS at first, for one that comes)");
        CargoTanks x = new CargoTanks();
        Ships.easy(x, 0, 10);
        for (int t = 0; t < 6; t++) {
            x.tank(10, 0, 0);
            d.due("one that comes: " + t, x.plan(t, 0), NONE);
        }
        CargoTanks y = Ships.of(6, 10);
        Ships.easy(y, 0, 10);
        d.due("none has one at first", y.ofPlan(1), 0);
        for (int t = 0; t < 6; t++) {
            d.due("at first: " + t, y.plan(t, 0), NONE);
        }
    }

    private void planRefusals() {
        d.sentence(14, "UNKNOWN: TANK; CARGO (not NONE).");
        d.refused("there is nothing", CargoTanks::new, x -> x.plan(0, NONE), UNKNOWN);
        d.refused("there is no cargo", () -> Ships.of(6, 9), x -> x.plan(0, 0), UNKNOWN);
        for (int t : new int[] {-1, 6, NONE, LEAST, MOST}) {
            d.refused("tank " + t, Ships::full, x -> x.plan(t, 0), UNKNOWN);
            d.refused("tank " + t + ", NONE", Ships::full, x -> x.plan(t, NONE), UNKNOWN);
        }
        for (int c : new int[] {-1, 4, -8, -10, LEAST, MOST}) {
            d.refused("cargo " + c, Ships::full, x -> x.plan(0, c), UNKNOWN);
        }
        CargoTanks y = Ships.of(1, 9);
        d.due("NONE, though there is no cargo", y.plan(0, NONE), NONE);
    }

    private void brokenAnswers() {
        d.sentence(15, "The first rule that THE PLAN breaks for a set (1 .. 6); 0: it is RIGHT.");
        CargoTanks x = new CargoTanks();
        d.due("nothing at all", x.broken(0), 0);
        Ships.easy(x, 0, 10);
        d.due("no tank for it", x.broken(1), 4);
        x.tank(10, 0, 1);
        x.tank(10, 1, 1);
        d.due("the empty plan for the empty set", x.broken(0), 0);
        d.due("the empty plan", x.broken(1), 4);
        x.plan(0, 0);
        d.due("not of the set", x.broken(0), 1);
        d.due("right", x.broken(1), 0);
        x.load();
        d.due("right at sea, too", x.broken(1), 0);
        x.bound(9);
        d.due("list", x.broken(1), 6);
        x.plan(1, 0);
        d.due("one stays empty", x.broken(1), 5);
        x.unload(0);
        x.amount(0, 21);
        d.due("too little", x.broken(1), 4);
        x.cargo(1, 1, 1, 0, 0, 1);
        x.neighbours(0, 1, true);
        x.plan(1, 1);
        d.due("coat ahead of clash", x.broken(3), 2);
        tell(x, 1, 0);
        d.due("clash", x.broken(3), 3);
        d.due("not of the set, too", x.broken(2), 1);
    }

    private void brokenRefusals() {
        d.sentence(15, "OUTSIDE: the set has others than CARGOES that there are.");
        for (int count = 0; count < 5; count++) {
            int cargoes = count;
            for (int set : new int[] {1 << count, (2 << count) - 1, 16, 31, 1 << 30, -1, -2, NONE,
                LEAST, MOST}) {
                d.refused(count + " cargoes, set " + set, () -> withCargoes(cargoes),
                        x -> x.broken(set), OUTSIDE);
            }
            CargoTanks y = withCargoes(count);
            d.due(count + " cargoes, all", y.broken((1 << count) - 1), count == 0 ? 0 : 4);
        }
        CargoTanks z = withCargoes(2);
        z.uncargo();
        d.due("one that is no more", z.broken(2), OUTSIDE);
        d.due("one that is yet", z.broken(1), 4);
    }

    private static CargoTanks withCargoes(int count) {
        CargoTanks x = Ships.of(2, 10);
        for (int c = 0; c < count; c++) {
            Ships.easy(x, c, 10);
        }
        return x;
    }

    private void ofPlanAnswers() {
        d.sentence(16, "Of THE PLAN: 0 COST, 1 how many TANKS have a CARGO, 2 LIST and 100000");
        int[] empty = {0, 0, 100000};
        CargoTanks none = new CargoTanks();
        CargoTanks x = new CargoTanks();
        x.tank(99, 0, -9);
        x.tank(99, 0, 9);
        Ships.easy(x, 1, 100);
        x.washes(7, 1, 3);
        x.latest(0, 0, 7);
        for (int what = 0; what < 3; what++) {
            d.due("no tanks, what " + what, none.ofPlan(what), empty[what]);
            d.due("no tank has one, what " + what, x.ofPlan(what), empty[what]);
        }
        tell(x, 0, 0);
        int[] want = {3, 2, 100000 - 891 + 9};
        for (int what = 0; what < 3; what++) {
            d.due("two tanks, what " + what, x.ofPlan(what), want[what]);
        }
        x.load();
        for (int what = 0; what < 3; what++) {
            d.due("at sea, what " + what, x.ofPlan(what), want[what]);
        }
    }

    private void ofPlanFillsAsFarAsTheyGo() {
        d.sentence(16, "(each CARGO filled into its TANKS as far as they go).");
        CargoTanks x = new CargoTanks();
        x.tank(10, 1, 1);
        x.tank(10, 1, 9);
        x.tank(10, 0, -9);
        x.cargo(1, 400, 1, 255, 255, 255);
        x.neighbours(0, 1, true);
        x.washes(2, 1, 2);
        for (int t = 0; t < 3; t++) {
            x.latest(t, 0, 2);
        }
        tell(x, 0, 0, NONE);
        d.due("too little room, not suiting, clashing: list", x.ofPlan(2), 100100);
        d.due("cost", x.ofPlan(0), 4);
        d.due("tanks", x.ofPlan(1), 2);
        x.amount(0, 10);
        d.due("the second one stays empty: list", x.ofPlan(2), 100010);
        d.due("it has a cargo yet: cost", x.ofPlan(0), 4);
        d.due("it has a cargo yet: tanks", x.ofPlan(1), 2);
        x.amount(0, 21);
        x.plan(2, 0);
        d.due("1 is in the third one", x.ofPlan(2), 100000 + 10 + 90 - 9);
        x.bound(0);
        d.due("beyond the bound", x.ofPlan(2), 100000 + 10 + 90 - 9);
    }

    private void ofPlanRefusals() {
        d.sentence(16, "OUTSIDE.");
        for (int what : new int[] {-1, 3, 4, 10, NONE, LEAST, MOST}) {
            d.refused("what " + what, Ships::full, x -> x.ofPlan(what), OUTSIDE);
            d.refused("what " + what + ", new", CargoTanks::new, x -> x.ofPlan(what), OUTSIDE);
        }
    }
}
