import java.util.List;
import java.util.function.ToIntFunction;

/** What the document says of all calls: refusals and their order, sets, how all is when asked. */
final class TermCases {
    private static final int UNKNOWN = Doc.UNKNOWN, OUTSIDE = Doc.OUTSIDE, STATE = Doc.STATE,
            FULL = Doc.FULL, NONE = Doc.NONE, TERMS = Doc.TERMS;

    private final Doc d;

    private TermCases(Doc d) {
        this.d = d;
    }

    static void all(Doc d) {
        TermCases cases = new TermCases(d);
        cases.lastCall();
        cases.kindsOfRefusals();
        cases.unknownFirst();
        cases.outsideNext();
        cases.nothingChanges();
        cases.none();
        cases.setsOfTanksAndCargoes();
        cases.setsOfCoatsAndLiquids();
        cases.howAllIs();
        cases.howAllIsAtSea();
        cases.askedBetweenChanges();
    }

    private void lastCall() {
        d.sentence(TERMS, "An object is used for at most 512 calls after it has been made;"
                + " what later calls answer is free.");
        CargoTanks x = Ships.of(1, 10);
        Ships.easy(x, 1, 10);
        x.washes(1, 1, 3);
        for (int pair = 0; pair < 254; pair++) {
            d.due("load", x.load(), pair == 0 ? 0 : 3);
            d.due("unload", x.unload(0), 1);
        }
        d.due("call 512", x.many(3), 253 * 3);
    }

    private void kindsOfRefusals() {
        d.sentence(TERMS, "UNKNOWN (there is no such TANK, CARGO, LIQUID), OUTSIDE (another number is"
                + " not as told), STATE (as told), FULL;");
        d.refused("no tank", Ships::loaded, x -> x.ofTank(6, 0), UNKNOWN);
        d.refused("no cargo", Ships::loaded, x -> x.ofCargo(4, 0), UNKNOWN);
        d.refused("no liquid", Ships::loaded, x -> x.washes(8, 0, 0), UNKNOWN);
        d.refused("another number", Ships::loaded, x -> x.bound(10000), OUTSIDE);
        d.refused("state", Ships::loaded, CargoTanks::load, STATE);
        d.refused("full of tanks", Ships::loaded, x -> x.tank(1, 0, 0), FULL);
        d.refused("full of cargoes", Ships::loaded, x -> x.cargo(0, 1, 1, 0, 0, 0), FULL);
    }

    private void unknownFirst() {
        d.sentence(TERMS, "REFUSALS: of a call's line the first that fits is answered, in the order"
                + " told there:");
        d.refused("latest: tank, place", Ships::full, x -> x.latest(6, 3, 0), UNKNOWN);
        d.refused("latest: tank, liquid", Ships::full, x -> x.latest(-1, 0, 8), UNKNOWN);
        d.refused("cargo: liquid, amount, full", Ships::full, x -> x.cargo(8, 0, 1, 0, 0, 0), UNKNOWN);
        d.refused("cargo: liquid, full", Ships::full, x -> x.cargo(-1, 1, 1, 0, 0, 0), UNKNOWN);
        d.refused("cargo: liquid, sets", CargoTanks::new, x -> x.cargo(8, 1, 16, 0, 0, 0), UNKNOWN);
        d.refused("amount: cargo, number", Ships::loaded, x -> x.amount(4, 0), UNKNOWN);
        d.refused("washes: first liquid, number", Ships::full, x -> x.washes(8, 0, 4), UNKNOWN);
        d.refused("washes: second liquid, number", Ships::full, x -> x.washes(0, 8, -1), UNKNOWN);
        d.refused("ofTank: tank, what", Ships::full, x -> x.ofTank(6, 9), UNKNOWN);
        d.refused("ofCargo: cargo, what", Ships::full, x -> x.ofCargo(4, 8), UNKNOWN);
        d.refused("pour: tank, number, state", Ships::loaded, x -> x.pour(6, 0, 0), UNKNOWN);
        d.refused("pour: one tank, number", Ships::loaded, x -> x.pour(0, 0, 100), UNKNOWN);
        d.refused("pour: tank, state", Ships::full, x -> x.pour(0, 6, 99), UNKNOWN);
    }

    private void outsideNext() {
        d.sentence(TERMS, "in the order told there: UNKNOWN (there is no such TANK, CARGO, LIQUID),"
                + " OUTSIDE (another number is not as told), STATE (as told), FULL;");
        d.refused("tank: volume, full", Ships::full, x -> x.tank(0, 0, 0), OUTSIDE);
        d.refused("tank: coat, full", Ships::full, x -> x.tank(1, 4, 0), OUTSIDE);
        d.refused("tank: lever, full", Ships::full, x -> x.tank(1, 0, -10), OUTSIDE);
        d.refused("cargo: amount, full", Ships::full, x -> x.cargo(0, 401, 1, 0, 0, 0), OUTSIDE);
        d.refused("cargo: coats, full", Ships::full, x -> x.cargo(0, 1, 16, 0, 0, 0), OUTSIDE);
        d.refused("cargo: behind, full", Ships::full, x -> x.cargo(0, 1, 1, 256, 0, 0), OUTSIDE);
        d.refused("cargo: never, full", Ships::full, x -> x.cargo(0, 1, 1, 0, -1, 0), OUTSIDE);
        d.refused("cargo: near, full", Ships::full, x -> x.cargo(0, 1, 1, 0, 0, 256), OUTSIDE);
        d.refused("amount: 0, held", Ships::loaded, x -> x.amount(0, 0), OUTSIDE);
        d.refused("amount: 401, held", Ships::loaded, x -> x.amount(0, 401), OUTSIDE);
        d.refused("pour: 0, nothing held", Ships::full, x -> x.pour(0, 1, 0), OUTSIDE);
        d.refused("pour: 100, nothing held", Ships::full, x -> x.pour(0, 1, 100), OUTSIDE);
    }

    /** Every refusal there is, one behind the other on one object. */
    private void nothingChanges() {
        d.sentence(TERMS, "they change nothing.");
        ToIntFunction<CargoTanks> all = x -> {
            int[] answers = {x.tank(100, 0, 0), x.tank(1, 0, 0), x.neighbours(3, 3, true),
                x.neighbours(0, 6, true), x.latest(6, 0, 0), x.latest(0, 3, 0), x.latest(0, 0, 8),
                x.cargo(8, 1, 1, 0, 0, 0), x.cargo(0, 0, 1, 0, 0, 0), x.cargo(0, 1, 1, 0, 0, 0),
                x.amount(4, 1), x.amount(3, 401), x.amount(0, 1), x.washes(8, 0, 1),
                x.washes(0, 8, 1), x.washes(0, 0, 4), x.bound(-1), x.ofTank(6, 0), x.ofTank(0, 9),
                x.ofCargo(4, 0), x.ofCargo(0, 8), x.needs(6, 0), x.needs(0, 4), x.why(6, 0),
                x.why(0, 4), x.plan(6, 0), x.plan(0, 4), x.broken(16), x.ofPlan(3), x.best(16, 0),
                x.best(0, 4), x.load(), x.unload(4), x.unload(3), x.pour(0, 6, 1), x.pour(0, 0, 1),
                x.pour(0, 1, 0), x.pour(0, 1, 99), x.many(5)};
            int accepted = 0;
            for (int answer : answers) {
                accepted += answer >= FULL && answer <= UNKNOWN ? 0 : 1;
            }
            return accepted;
        };
        d.refused("all refusals", Ships::loaded, all, 0);
        d.refused("uncargo of none", CargoTanks::new, CargoTanks::uncargo, STATE);
        d.refused("uncargo of one that is held", TermCases::lastIsHeld, CargoTanks::uncargo, STATE);
        d.refused("load of nothing", TermCases::noneFits, CargoTanks::load, STATE);
    }

    private static CargoTanks lastIsHeld() {
        CargoTanks x = Ships.of(2, 10);
        Ships.easy(x, 1, 15);
        x.plan(0, 0);
        x.load();
        return x;
    }

    private static CargoTanks noneFits() {
        CargoTanks x = Ships.of(2, 10);
        Ships.easy(x, 1, 21);
        x.plan(1, 0);
        return x;
    }

    private void none() {
        d.sentence(TERMS, "NONE is -9.");
        d.due("NONE", CargoTanks.NONE, -9);
        d.due("UNKNOWN", CargoTanks.UNKNOWN, -1);
        d.due("OUTSIDE", CargoTanks.OUTSIDE, -2);
        d.due("STATE", CargoTanks.STATE, -3);
        d.due("FULL", CargoTanks.FULL, -4);
        CargoTanks x = Ships.of(1, 10);
        d.due("a latest", x.ofTank(0, 4), -9);
        d.due("-9 is NONE as a latest", x.latest(0, 0, -9), -9);
        d.due("what is held", x.ofTank(0, 7), -9);
        d.due("-9 is NONE in the plan", x.plan(0, -9), -9);
        d.due("the best has none", x.best(0, 10), -9);
    }

    private void setsOfTanksAndCargoes() {
        d.sentence(TERMS, "Sets are told as bits (bit k for number k).");
        for (int k = 0; k < 6; k++) {
            CargoTanks x = Ships.of(6, 10);
            int other = (k + 1) % 6;
            x.neighbours(other, k, true);
            d.due("neighbour " + k, x.ofTank(other, 3), 1 << k);
            x.cargo(1, 1, 1, 0, 1, 0);
            for (int t = 0; t < 6; t++) {
                x.latest(t, 2, t == k ? 1 : 0);
            }
            d.due("suited by " + k, x.ofCargo(0, 6), 1 << k);
        }
        for (int k = 0; k < 4; k++) {
            CargoTanks x = Ships.of(1, 10);
            for (int c = 0; c < 4; c++) {
                x.cargo(c, c == k ? 10 : 11, 15, 0, 0, c == k ? 1 << k : 0);
            }
            x.plan(0, k);
            d.due("clashes with itself " + k, x.ofCargo(k, 7), 1 << k);
            d.due("taken " + k, x.taken(), 1 << k);
            d.due("right for " + k, x.broken(1 << k), 0);
            d.due("best for " + k, x.best(1 << k, 10), k);
        }
    }

    private void setsOfCoatsAndLiquids() {
        d.sentence(TERMS, "Sets are told as bits (bit k for number k).");
        for (int k = 0; k < 4; k++) {
            for (int coat = 0; coat < 4; coat++) {
                CargoTanks x = new CargoTanks();
                x.tank(10, coat, 0);
                x.cargo(0, 1, 1 << k, 0, 0, 0);
                d.due("coat " + coat + ", bears " + k, x.why(0, 0), coat == k ? 0 : 1);
            }
        }
        for (int k = 0; k < 8; k++) {
            for (int liquid = 0; liquid < 8; liquid++) {
                CargoTanks x = Ships.of(1, 10);
                x.latest(0, 0, liquid);
                x.cargo(0, 1, 1, 1 << k, 0, 0);
                x.cargo(0, 1, 1, 0, 1 << k, 0);
                x.cargo(k, 1, 1, 0, 0, 1 << liquid);
                d.due("behind " + liquid + ", may not " + k, x.why(0, 0), liquid == k ? 2 : 0);
                d.due("was in it " + liquid + ", never " + k, x.why(0, 1), liquid == k ? 4 : 0);
                int clashing = (liquid == k ? 4 : 0) | (liquid == 0 ? 3 : 0);
                d.due(k + ", never near " + liquid, x.ofCargo(2, 7), clashing);
            }
        }
    }

    private void howAllIs() {
        d.sentence(TERMS, "All that is told is by how all is when it is asked.");
        CargoTanks x = Ships.of(2, 10);
        x.cargo(1, 10, 1, 4, 8, 0);
        d.due("needs", x.needs(0, 0), 0);
        x.latest(0, 0, 5);
        x.washes(5, 1, 2);
        d.due("needs, by latest and washes of now", x.needs(0, 0), 2);
        d.due("best goes to the other tank", x.best(1, 11), 0);
        x.latest(1, 0, 2);
        d.due("why, by latest of now", x.why(1, 0), 2);
        d.due("best goes back", x.best(1, 10), 0);
        d.due("and is washed", x.best(1, 0), 2);
        x.plan(1, 0);
        d.due("it does not suit", x.broken(1), 2);
        x.latest(1, 0, NONE);
        d.due("it suits", x.broken(1), 0);
        x.amount(0, 11);
        d.due("amount of now", x.broken(1), 4);
        d.due("one plan, that of both tanks", x.best(1, 3), 1);
        x.tank(11, 0, 0);
        d.due("tanks of now", x.best(1, 12), 0);
        d.due("plans of now", x.best(1, 3), 4);
        x.uncargo();
        d.due("cargoes of now", x.best(1, 3), OUTSIDE);
        d.due("taken of now", x.taken(), 0);
    }

    private void howAllIsAtSea() {
        d.sentence(TERMS, "All that is told is by how all is when it is asked.");
        CargoTanks x = Ships.of(3, 10);
        x.cargo(1, 10, 1, 4, 0, 0);
        x.cargo(2, 10, 1, 0, 0, 2);
        x.load();
        x.neighbours(1, 2, true);
        d.due("neighbours of now clash", x.pour(0, 2, 1), STATE);
        x.neighbours(1, 2, false);
        x.latest(2, 0, 2);
        d.due("latest of now does not suit", x.pour(0, 2, 1), STATE);
        x.latest(2, 0, 3);
        x.washes(3, 1, 1);
        d.due("it suits now", x.pour(0, 2, 1), 1);
        d.due("washes of now", x.many(3), 1);
        x.latest(0, 0, 6);
        d.due("latest of a tank that holds something", x.ofTank(0, 4), 6);
        x.unload(0);
        d.due("its liquid comes ahead of that", x.ofTank(0, 5), 6);
        x.unload(1);
        x.washes(1, 1, 3);
        x.washes(1, 2, 3);
        x.latest(1, 0, 7);
        x.washes(7, 1, 1);
        x.washes(7, 2, 1);
        d.due("loading by washes of now", x.load(), 4);
    }

    /** What was found for an answer must not serve behind a change, whichever it is. */
    private void askedBetweenChanges() {
        d.sentence(TERMS, "All that is told is by how all is when it is asked.");
        List<ToIntFunction<CargoTanks>> changes = List.of(x -> x.tank(50, 0, 0),
                x -> x.neighbours(0, 1, true), x -> x.latest(0, 0, NONE),
                x -> x.cargo(5, 10, 15, 0, 0, 0), CargoTanks::uncargo, x -> x.amount(2, 40),
                x -> x.washes(4, 1, 3), x -> x.bound(9), x -> x.unload(0), x -> x.pour(0, 3, 10));
        for (int a = 0; a < changes.size(); a++) {
            CargoTanks changed = twoOfThree();
            changes.get(a).applyAsInt(changed);
            int some = Math.min(1, Snapshot.differentBest(twoOfThree(), changed));
            d.due("change " + a + " changes the best", some, 1);
            for (int b = 0; b < changes.size(); b++) {
                askedBetween(a + " and " + b, changes.get(a), changes.get(b));
            }
        }
    }

    private void askedBetween(String which, ToIntFunction<CargoTanks> a, ToIntFunction<CargoTanks> b) {
        for (boolean asked : new boolean[] {true, false}) {
            CargoTanks x = twoOfThree();
            CargoTanks y = twoOfThree();
            a.applyAsInt(x);
            a.applyAsInt(y);
            if (asked) {
                x.taken();
            }
            b.applyAsInt(x);
            b.applyAsInt(y);
            // there and back: all is as it was, but whatever was found has to be found anew
            y.bound(y.bound(0));
            d.due("changes " + which, Snapshot.differentBest(x, y), 0);
        }
    }

    /** Two cargoes are held, the third one is too large. */
    private static CargoTanks twoOfThree() {
        CargoTanks x = new CargoTanks();
        for (int t = 0; t < 4; t++) {
            x.tank(10, 0, t % 2 == 0 ? 1 : -1);
            x.latest(t, 0, 4);
        }
        x.washes(4, 1, 1);
        x.cargo(1, 10, 1, 0, 0, 4);
        Ships.easy(x, 2, 10);
        Ships.easy(x, 3, 45);
        x.load();
        return x;
    }
}
