/** Promise 2: collect. */
public final class Promise02CollectTest {
    private static final int[] MOST = {127, 1, 255};

    public static void main(String[] args) {
        for (int what = 0; what < 3; what++) {
            ranges(what);
            twoHundred(what);
        }
        wrongSorts();
        apart();
        Due.end();
    }

    private static void ranges(int what) {
        CarDesk x = new CarDesk();
        Due.due(what + ": the least", x.collect(what, 0), 1);
        Due.due(what + ": the most", x.collect(what, MOST[what]), 2);
        Due.due(what + ": the least again", x.collect(what, 0), 3);
        long[] none = {-1, MOST[what] + 1, 1000, 1L << 32, (1L << 32) + 1, Long.MIN_VALUE, Long.MAX_VALUE};
        for (long v : none) {
            Due.refused("collect(" + what + ", " + v + ")", Desks::busyHouse, d -> d.collect(what, v), -2);
        }
    }

    private static void twoHundred(int what) {
        CarDesk x = full(what);
        Due.due(what + ": told of 200", x.told(8 + what), 200);
        Due.due(what + ": told ACTS of 200", x.told(7), 200);
        Due.refused(what + ": the 201st", () -> full(what), d -> d.collect(what, 1), -4);
        Due.refused(what + ": a wrong 201st", () -> full(what), d -> d.collect(what, 256), -2);
        Due.due(what + ": one of another sort", x.collect((what + 1) % 3, 1), 1);
        Due.due(what + ": made of 200", x.make(2 * what), 128 * what + 1);
        Due.due(what + ": one after the make", x.collect(what, 1), 1);
    }

    private static CarDesk full(int what) {
        CarDesk x = new CarDesk();
        for (int i = 1; i <= 200; i++) {
            Due.due("collect(" + what + ", 1)", x.collect(what, 1), i);
        }
        return x;
    }

    private static void wrongSorts() {
        int[] unknown = {-1, 3, 4, Integer.MIN_VALUE, Integer.MAX_VALUE};
        for (int what : unknown) {
            Due.refused("collect(" + what + ", 0)", Desks::busyHouse, d -> d.collect(what, 0), -1);
            Due.refused("collect(" + what + ", -1)", Desks::busyHouse, d -> d.collect(what, -1), -1);
        }
    }

    private static void apart() {
        CarDesk x = new CarDesk();
        Due.due("a letter", x.collect(0, 5), 1);
        Due.due("a bit", x.collect(1, 1), 1);
        Due.due("a byte", x.collect(2, 200), 1);
        Due.due("a second letter", x.collect(0, 6), 2);
        Due.due("ACTS", x.told(7), 4);
        Due.due("refused", x.told(0), 0);
        x.make(0);
        Due.due("bits after a SYSTEM", x.told(9), 1);
        Due.due("bytes after a SYSTEM", x.told(10), 1);
    }
}
