/** Desks that several tests begin with. */
final class Desks {
    static final int SYSTEM = 0;
    static final int WORLD = 1;
    static final int BUS = 2;
    static final int TESTER = 3;
    static final int PACKAGE = 4;
    static final int FLEET = 5;
    static final int ASKS = 0;
    static final int SETS = 6;
    static final int STEPS = 12;
    static final long BILLION = 1000000000L;

    private Desks() {
    }

    static CarDesk collect(CarDesk x, int what, int... values) {
        for (int value : values) {
            x.collect(what, value);
        }
        return x;
    }

    static int system(CarDesk x, int... letters) {
        return collect(x, 0, letters).make(SYSTEM);
    }

    static int bus(CarDesk x, int... bits) {
        return collect(x, 1, bits).make(BUS);
    }

    static int pack(CarDesk x, int... bytes) {
        return collect(x, 2, bytes).make(PACKAGE);
    }

    /** The STATE of a thing, with no call that could FAIL noted: the ANSWER must be 0. */
    static long state(CarDesk x, int number) {
        return x.again(ASKS + number / 64, number, 0);
    }

    /** 1 SYSTEM (5), 65 and 66 WORLDS of it, 129 BUS, 193 TESTER of 66, 257 PACKAGE, 321 FLEET. */
    static CarDesk house() {
        CarDesk x = new CarDesk();
        system(x, 1);
        x.call(SETS + SYSTEM, 1, 5);
        x.make(WORLD);
        x.make(WORLD);
        bus(x, 1, 0, 1);
        x.make(TESTER);
        pack(x, 3);
        x.make(FLEET);
        return x;
    }

    /** A house with ANSWERS, FAILURES, a FAILED call and something of each sort collected. */
    static CarDesk busyHouse() {
        CarDesk x = house();
        for (int call = 0; call < 24; call++) {
            x.answer(call, 10 + call);
        }
        x.fails(SETS + BUS, 3);
        x.call(SETS + BUS, 129, 1);
        x.call(STEPS + WORLD, 65, 4);
        collect(x, 0, 1, 2);
        collect(x, 1, 1, 0, 0);
        collect(x, 2, 9);
        return x;
    }

    /** Twenty things of a KIND made and all that they are made of there again. */
    static CarDesk twentyOf(int kind) {
        CarDesk x = new CarDesk();
        if (kind == WORLD || kind == TESTER || kind == FLEET) {
            system(x, 1);
        }
        if (kind == TESTER || kind == FLEET) {
            x.make(WORLD);
        }
        for (int i = 0; i < 20; i++) {
            refill(x);
            x.make(kind);
        }
        refill(x);
        return x;
    }

    private static void refill(CarDesk x) {
        for (int what = 0; what < 3; what++) {
            if (x.told(8 + what) == 0) {
                x.collect(what, 1);
            }
        }
    }
}
