/** Ships that several tests begin with. */
final class Ships {
    private Ships() {
    }

    /** Tanks of one volume, coat 0 and no lever. */
    static CargoTanks of(int tanks, int volume) {
        CargoTanks x = new CargoTanks();
        for (int t = 0; t < tanks; t++) {
            x.tank(volume, 0, 0);
        }
        return x;
    }

    /** A cargo that bears all coats and minds no liquid. */
    static int easy(CargoTanks x, int liquid, int amount) {
        return x.cargo(liquid, amount, 15, 0, 0, 0);
    }

    /** As many tanks and cargoes as there may be, something of everything; all tanks are empty. */
    static CargoTanks full() {
        CargoTanks x = new CargoTanks();
        for (int t = 0; t < 6; t++) {
            x.tank(10 + t, t % 4, t - 3);
            x.latest(t, t % 3, t + 1);
        }
        x.neighbours(0, 1, true);
        x.neighbours(2, 5, true);
        x.washes(1, 1, 2);
        x.washes(4, 1, 3);
        x.washes(1, 4, 1);
        x.bound(500);
        x.cargo(1, 20, 15, 0, 0, 0);
        x.cargo(2, 12, 15, 2, 64, 0);
        x.cargo(3, 13, 14, 0, 0, 12);
        x.cargo(4, 400, 7, 1, 2, 3);
        x.plan(0, 0);
        x.plan(1, 0);
        x.plan(3, 1);
        x.plan(4, 3);
        return x;
    }

    /** The same at sea: the last cargo is not taken. */
    static CargoTanks loaded() {
        CargoTanks x = full();
        x.load();
        return x;
    }
}
