/** Promise 4: fails. */
public final class Promise04FailsTest {
    public static void main(String[] args) {
        Sentences promise = new Sentences("Promise 4: fails");
        promise.holds("The FAILURE of a call: what it was.", Promise04FailsTest::whatItWas);
        promise.holds("-1 there is no such call", Promise04FailsTest::noSuchCall);
        promise.holds("-2 the kind is not 0 .. 4.", Promise04FailsTest::outside);
        promise.end();
    }

    private static void whatItWas() {
        CarDesk x = new CarDesk();
        for (int call = 0; call < 24; call++) {
            Due.due("fails(" + call + ", 4)", x.fails(call, 4), 0);
            Due.due("fails(" + call + ", 1)", x.fails(call, 1), 4);
        }
        for (int call = 0; call < 24; call++) {
            Due.due("fails(" + call + ", 0)", x.fails(call, 0), 1);
            Due.due("fails(" + call + ", 2)", x.fails(call, 2), 0);
        }
        Due.due("the same again", x.fails(0, 2), 2);
        Due.due("ACTS", x.told(7), 97);
        Due.due("nothing FAILED yet", x.told(1), 0);
        aFailureStays();
    }

    private static void aFailureStays() {
        CarDesk x = Desks.house();
        x.fails(2, 4);
        Due.due("it FAILS", x.call(2, 129, 0), -104);
        Due.due("it FAILS again", x.call(2, 129, 0), -104);
        Due.due("the next call doesn't", x.call(8, 129, 7), 2002);
        Due.due("no FAILURE again", x.fails(2, 0), 4);
        Due.due("it doesn't FAIL", x.call(2, 129, 0), 7);
    }

    private static void noSuchCall() {
        Due.due("the first call", new CarDesk().fails(0, 1), 0);
        Due.due("the last call", new CarDesk().fails(23, 1), 0);
        int[] unknown = {-1, -24, 24, 25, Integer.MIN_VALUE, Integer.MAX_VALUE};
        for (int call : unknown) {
            Due.refused("fails(" + call + ", 0)", Desks::busyHouse, d -> d.fails(call, 0), -1);
            Due.refused("fails(" + call + ", 5)", Desks::busyHouse, d -> d.fails(call, 5), -1);
            Due.refused("fails(" + call + ", -1)", Desks::busyHouse, d -> d.fails(call, -1), -1);
        }
    }

    private static void outside() {
        for (int call = 0; call < 24; call += 23) {
            CarDesk x = new CarDesk();
            Due.due("fails(" + call + ", the most)", x.fails(call, 4), 0);
            Due.due("fails(" + call + ", the least)", x.fails(call, 0), 4);
        }
        int[] outside = {-1, 5, 6, Integer.MIN_VALUE, Integer.MAX_VALUE};
        for (int kind : outside) {
            Due.refused("fails(8, " + kind + ")", Desks::busyHouse, d -> d.fails(8, kind), -2);
            CarDesk x = Desks.busyHouse();
            x.fails(8, kind);
            Due.due("a refused one leaves the FAILURE", x.fails(8, 0), 3);
        }
    }
}
