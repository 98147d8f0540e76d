/** Promise 4: fails. */
public final class Promise04FailsTest {
    public static void main(String[] args) {
        whatItWas();
        everyCallFails();
        allIsAsBefore();
        refusalComesFirst();
        edges();
        Due.end();
    }

    private static void whatItWas() {
        CarDesk x = new CarDesk();
        for (int call = 0; call < 24; call++) {
            Due.due("fails(" + call + ", 4)", x.fails(call, 4), 0);
            Due.due("fails(" + call + ", 1)", x.fails(call, 1), 4);
        }
        for (int call = 0; call < 24; call++) {
            Due.due("fails(" + call + ", 0)", x.fails(call, 0), 1);
            Due.due("fails(" + call + ", 2)", x.fails(call, 2), 0);
        }
        Due.due("ACTS", x.told(7), 96);
        Due.due("nothing FAILED yet", x.told(1), 0);
    }

    private static void everyCallFails() {
        for (int call = 0; call < 24; call++) {
            if (call == 12) {
                continue; // a SYSTEM with a WORLD can't be stepped: see allIsAsBefore
            }
            CarDesk x = Desks.house();
            int number = 64 * (call % 6) + 1;
            for (int failure = 1; failure <= 4; failure++) {
                x.fails(call, failure);
                Due.due("call " + call + " with " + failure, x.call(call, number, number), -100 - failure);
            }
            x.fails(call, 0);
            Due.due("call " + call + " without", x.call(call, number, number) > -100, true);
            Due.due("call " + call + ": FAILED", x.told(1), 4);
        }
    }

    private static void allIsAsBefore() {
        CarDesk x = new CarDesk();
        Desks.system(x, 1);
        x.fails(12, 1);
        x.fails(6, 2);
        for (int i = 0; i < 60; i++) {
            Due.due("STEPS with a FAILURE", x.call(12, 1, 3), -101);
        }
        Due.due("SETS with a FAILURE", x.call(6, 1, 9), -102);
        Due.due("the STATE then", x.call(0, 1, 0), 218);
        x.fails(12, 0);
        x.fails(6, 0);
        Due.due("TURNS then", x.call(12, 1, 3), 1);
        Due.due("the STATE after a step", x.call(6, 1, 9), 218 ^ 3);
        Due.due("FAILED", x.told(1), 61);
        Due.due("answered", x.told(5), 3);
        Due.due("ACTS", x.told(7), 70);
    }

    private static void refusalComesFirst() {
        CarDesk x = Desks.house();
        for (int call = 0; call < 24; call++) {
            x.fails(call, 3);
        }
        Due.due("no such thing", x.call(0, 2, 0), -1);
        Due.due("outside", x.call(0, 1, Desks.BILLION + 1), -2);
        Due.due("a SYSTEM of which a WORLD is there", x.call(12, 1, 0), -3);
        Due.due("FAILED", x.told(1), 0);
        Due.due("refused", x.told(0), 3);
    }

    private static void edges() {
        int[] outside = {-1, 5, Integer.MIN_VALUE, Integer.MAX_VALUE};
        for (int kind : outside) {
            Due.refused("fails(8, " + kind + ")", Desks::busyHouse, d -> d.fails(8, kind), -2);
            Due.refused("fails(24, " + kind + ")", Desks::busyHouse, d -> d.fails(24, kind), -1);
        }
        int[] unknown = {-1, 24, 25, Integer.MIN_VALUE, Integer.MAX_VALUE};
        for (int call : unknown) {
            Due.refused("fails(" + call + ", 0)", Desks::busyHouse, d -> d.fails(call, 0), -1);
        }
        CarDesk x = Desks.busyHouse();
        x.fails(8, 5);
        Due.due("a refused one leaves the FAILURE", x.fails(8, 0), 3);
    }
}
