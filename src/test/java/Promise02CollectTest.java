/** Promise 2: collect. */
public final class Promise02CollectTest {
    private static final int[] MOST = {127, 1, 255};

    public static void main(String[] args) {
        Sentences promise = new Sentences("Promise 2: collect");
        promise.holds("One more letter (what = 0), bit (1), byte (2): how many are collected of that sort.",
            Promise02CollectTest::oneMore);
        promise.holds("-1 there is no such what", Promise02CollectTest::noSuchWhat);
        promise.holds("-2 v is none", Promise02CollectTest::none);
        promise.holds("-4 there are 200.", Promise02CollectTest::twoHundred);
        promise.end();
    }

    private static void oneMore() {
        CarDesk x = new CarDesk();
        Due.due("a letter", x.collect(0, 5), 1);
        Due.due("a bit", x.collect(1, 1), 1);
        Due.due("a byte", x.collect(2, 200), 1);
        Due.due("a second letter", x.collect(0, 6), 2);
        Due.due("the same letter", x.collect(0, 6), 3);
        Due.due("a second byte", x.collect(2, 200), 2);
        Due.due("ACTS", x.told(7), 6);
        Due.due("refused", x.told(0), 0);
        x.make(0);
        Due.due("a letter after a SYSTEM", x.collect(0, 5), 1);
        Due.due("a bit after a SYSTEM", x.collect(1, 0), 2);
        Due.due("a byte after a SYSTEM", x.collect(2, 0), 3);
        for (int what = 0; what < 3; what++) {
            leastAndMost(what);
        }
    }

    private static void leastAndMost(int what) {
        CarDesk x = new CarDesk();
        Due.due(what + ": the least", x.collect(what, 0), 1);
        Due.due(what + ": the most", x.collect(what, MOST[what]), 2);
        Due.due(what + ": the least again", x.collect(what, 0), 3);
    }

    private static void noSuchWhat() {
        int[] unknown = {-1, 3, 4, 8, Integer.MIN_VALUE, Integer.MAX_VALUE};
        for (int what : unknown) {
            Due.refused("collect(" + what + ", 0)", Desks::busyHouse, d -> d.collect(what, 0), -1);
            Due.refused("collect(" + what + ", -1)", Desks::busyHouse, d -> d.collect(what, -1), -1);
            Due.refused("collect(" + what + ", 256)", Desks::busyHouse, d -> d.collect(what, 256), -1);
        }
    }

    private static void none() {
        for (int sort = 0; sort < 3; sort++) {
            int what = sort;
            long[] none = {-1, -2, MOST[what] + 1, MOST[what] + 2, 1000, 1L << 32, (1L << 32) + 1,
                Long.MIN_VALUE, Long.MAX_VALUE};
            for (long v : none) {
                Due.refused("collect(" + what + ", " + v + ")", Desks::busyHouse, d -> d.collect(what, v), -2);
                Due.due("collect(" + what + ", " + v + ") first", new CarDesk().collect(what, v), -2);
            }
            Due.refused(what + ": too small, with 200", () -> full(what), d -> d.collect(what, -1), -2);
            Due.refused(what + ": too large, with 200", () -> full(what), d -> d.collect(what, 256), -2);
        }
    }

    private static void twoHundred() {
        for (int sort = 0; sort < 3; sort++) {
            int what = sort;
            CarDesk x = full(what);
            Due.due(what + ": told of 200", x.told(8 + what), 200);
            Due.due(what + ": told ACTS of 200", x.told(7), 200);
            Due.refused(what + ": the 201st", () -> full(what), d -> d.collect(what, 1), -4);
            Due.refused(what + ": the 201st, the least", () -> full(what), d -> d.collect(what, 0), -4);
            Due.refused(what + ": the 201st, the most", () -> full(what), d -> d.collect(what, MOST[what]), -4);
            Due.due(what + ": one of the next sort", x.collect((what + 1) % 3, 1), 1);
            Due.due(what + ": one of the third sort", x.collect((what + 2) % 3, 1), 1);
            Due.due(what + ": made of 200", x.make(2 * what), 128 * what + 1);
            Due.due(what + ": one after the make", x.collect(what, 1), 1);
        }
    }

    private static CarDesk full(int what) {
        CarDesk x = new CarDesk();
        for (int i = 1; i <= 200; i++) {
            Due.due("collect(" + what + ", 1)", x.collect(what, 1), i);
        }
        return x;
    }
}
