import java.util.ArrayList;
import java.util.List;
import java.util.function.Supplier;
import java.util.function.ToIntFunction;

/**
 * All that an object can be asked. It is read from several objects made alike, as reading it all
 * from one would take more than the 512 calls that the document promises.
 */
final class Snapshot {
    private static final int PARTS = 3;

    private Snapshot() {
    }

    /** How many answers a call changes. */
    static int changes(Supplier<CargoTanks> made, ToIntFunction<CargoTanks> call) {
        return different(read(made, x -> 0), read(made, call));
    }

    /** How many of all answers of best() and taken() are not the same for two objects. */
    static int differentBest(CargoTanks one, CargoTanks other) {
        List<Integer> first = new ArrayList<>();
        List<Integer> second = new ArrayList<>();
        readBest(one, first);
        readBest(other, second);
        return different(first, second);
    }

    private static int different(List<Integer> one, List<Integer> other) {
        int count = 0;
        for (int k = 0; k < one.size(); k++) {
            count += one.get(k).equals(other.get(k)) ? 0 : 1;
        }
        return count;
    }

    private static List<Integer> read(Supplier<CargoTanks> made, ToIntFunction<CargoTanks> first) {
        List<Integer> seen = new ArrayList<>();
        for (int part = 0; part < PARTS; part++) {
            CargoTanks x = made.get();
            first.applyAsInt(x);
            switch (part) {
                case 0 -> readShip(x, seen);
                case 1 -> readBest(x, seen);
                default -> readWashes(x, seen);
            }
        }
        return seen;
    }

    private static void readShip(CargoTanks x, List<Integer> seen) {
        for (int what = 0; what < 5; what++) {
            seen.add(x.many(what));
        }
        for (int t = 0; t < 7; t++) {
            for (int what = 0; what < 9; what++) {
                seen.add(x.ofTank(t, what));
            }
        }
        for (int c = 0; c < 5; c++) {
            for (int what = 0; what < 8; what++) {
                seen.add(x.ofCargo(c, what));
            }
        }
        for (int what = 0; what < 3; what++) {
            seen.add(x.ofPlan(what));
        }
        for (int set = 0; set < 16; set++) {
            seen.add(x.broken(set));
        }
        for (int t = 0; t < 6; t++) {
            seen.add(x.plan(t, Doc.NONE));
        }
    }

    private static void readBest(CargoTanks x, List<Integer> seen) {
        for (int set = 0; set < 16; set++) {
            for (int what = 0; what < 26; what++) {
                if (what < 4 || what % 10 < 6 && what >= 10) {
                    seen.add(x.best(set, what));
                }
            }
        }
        seen.add(x.taken());
        seen.add(x.bound(0));
    }

    private static void readWashes(CargoTanks x, List<Integer> seen) {
        for (int t = 0; t < 6; t++) {
            for (int c = 0; c < 4; c++) {
                seen.add(x.needs(t, c));
                seen.add(x.why(t, c));
            }
        }
        for (int from = 0; from < 8; from++) {
            for (int to = 0; to < 8; to++) {
                seen.add(x.washes(from, to, 0));
            }
        }
    }
}
