/** Promise 7: told. */
public final class Promise07ToldTest {
    public static void main(String[] args) {
        Sentences promise = new Sentences("Promise 7: told");
        promise.holds("What = 0 how many were REFUSED", Promise07ToldTest::refused);
        promise.holds("1 how many calls FAILED", Promise07ToldTest::failed);
        promise.holds("2, 3, 4 the FAILURE, the call and the NUMBER of the one that FAILED last",
            Promise07ToldTest::failedLast);
        promise.holds("(0 without one)", Promise07ToldTest::withoutOne);
        promise.holds("5 calls that were answered", Promise07ToldTest::answered);
        promise.holds("6 things made in all", Promise07ToldTest::made);
        promise.holds("7 ACTS that are noted", Promise07ToldTest::acts);
        promise.holds("8, 9, 10 how many letters, bits, bytes are collected.", Promise07ToldTest::collected);
        promise.holds("-2 there is no such what", Promise07ToldTest::noSuchWhat);
        promise.holds("(this is told by no count)", Promise07ToldTest::toldByNoCount);
        promise.end();
    }

    private static void refused() {
        CarDesk x = Desks.house();
        Due.due("none at first", x.told(0), 0);
        x.collect(3, 0);
        x.collect(0, -1);
        x.answer(24, 0);
        x.answer(0, 2 * Desks.BILLION);
        x.fails(-1, 0);
        x.fails(0, 9);
        x.make(6);
        x.make(0);
        x.call(24, 1, 1);
        x.call(0, 1, 2 * Desks.BILLION);
        x.call(12, 1, 1);
        x.drop(1);
        x.drop(2);
        Due.due("every refused one counts", x.told(0), 13);
        x.collect(0, 0);
        x.drop(193);
        x.fails(0, 1);
        x.call(0, 1, 0);
        Due.due("what is done does not, nor what FAILED", x.told(0), 13);
        CarDesk y = new CarDesk();
        for (int i = 0; i < 500; i++) {
            y.make(0);
        }
        Due.due("five hundred", y.told(0), 500);
    }

    private static void failed() {
        CarDesk x = Desks.house();
        x.fails(4, 3);
        Due.due("a FAILURE alone is none that FAILED", x.told(1), 0);
        for (int i = 1; i <= 60; i++) {
            x.call(4, 257, 0);
            Due.due("FAILED", x.told(1), i);
        }
        x.call(4, 258, 0);
        x.call(0, 1, 0);
        Due.due("none that was refused or answered", x.told(1), 60);
        x.again(4, 257, 0);
        Due.due("none that was done again", x.told(1), 60);
        x.fails(4, 0);
        x.call(4, 257, 0);
        Due.due("none after that", x.told(1), 60);
    }

    private static void failedLast() {
        CarDesk x = Desks.house();
        x.fails(4, 3);
        x.fails(22, 1);
        x.call(4, 257, 0);
        toldLast(x, 3, 4, 257);
        x.fails(4, 2);
        toldLast(x, 3, 4, 257);
        x.call(22, 257, 257);
        toldLast(x, 1, 22, 257);
        x.call(4, 258, 0);
        toldLast(x, 1, 22, 257);
        x.call(0, 1, 0);
        toldLast(x, 1, 22, 257);
        x.again(4, 257, 0);
        toldLast(x, 1, 22, 257);
        x.drop(257);
        toldLast(x, 1, 22, 257);
        x.fails(0, 4);
        x.call(0, 1, 0);
        toldLast(x, 4, 0, 1);
        x.fails(0, 0);
        x.call(0, 1, 0);
        toldLast(x, 4, 0, 1);
        x.fails(23, 1);
        x.call(23, 321, 321);
        toldLast(x, 1, 23, 321);
        x.fails(7, 2);
        x.call(7, 66, 65);
        toldLast(x, 2, 7, 66);
    }

    private static void toldLast(CarDesk x, int failure, int call, int number) {
        Due.due("the last FAILURE", x.told(2), failure);
        Due.due("the call that FAILED last", x.told(3), call);
        Due.due("the NUMBER that FAILED last", x.told(4), number);
    }

    private static void withoutOne() {
        toldLast(new CarDesk(), 0, 0, 0);
        CarDesk x = Desks.house();
        x.fails(4, 3);
        x.call(4, 258, 0);
        x.call(4, 257, 2 * Desks.BILLION);
        x.again(4, 257, 0);
        x.call(10, 257, 1);
        toldLast(x, 0, 0, 0);
    }

    private static void answered() {
        CarDesk x = new CarDesk();
        Desks.system(x, 1);
        x.make(1);
        x.answer(0, 1);
        x.fails(5, 1);
        Due.due("none yet", x.told(5), 0);
        x.call(0, 1, 0);
        x.call(7, 65, 1);
        x.call(13, 65, 1);
        x.call(19, 65, 65);
        Due.due("one of each FORM", x.told(5), 4);
        x.call(0, 9, 0);
        x.call(24, 1, 0);
        x.call(0, 1, 2 * Desks.BILLION);
        x.call(12, 1, 1);
        Due.due("none that was refused", x.told(5), 4);
        x.fails(0, 1);
        x.call(0, 1, 0);
        Due.due("none that FAILED", x.told(5), 4);
        x.again(7, 65, 1);
        Due.due("none that was done again", x.told(5), 4);
        x.drop(65);
        Due.due("no drop", x.told(5), 4);
        for (int i = 0; i < 400; i++) {
            x.call(6, 1, i);
        }
        Due.due("four hundred more", x.told(5), 404);
    }

    private static void made() {
        CarDesk x = Desks.house();
        Due.due("seven", x.told(6), 7);
        x.drop(321);
        x.drop(257);
        Due.due("those that are gone, too", x.told(6), 7);
        x.make(0);
        x.make(6);
        Due.due("none that was refused", x.told(6), 7);
        x.make(5);
        Due.due("eight", x.told(6), 8);
        Due.due("all that there can be", all().told(6), 120);
    }

    /** All things that can ever be made: twenty of each KIND. */
    private static CarDesk all() {
        CarDesk x = new CarDesk();
        for (int i = 0; i < 21; i++) {
            Desks.system(x, 1);
            Desks.bus(x, 1);
            Desks.pack(x, 1);
            for (int kind = 1; kind <= 5; kind += 2) {
                x.make(kind);
            }
        }
        return x;
    }

    private static void acts() {
        CarDesk x = new CarDesk();
        Desks.collect(x, 0, 1, 2, 3);
        Due.due("three collected", x.told(7), 3);
        x.make(0);
        x.make(1);
        Due.due("two made", x.told(7), 5);
        x.call(0, 1, 0);
        x.call(7, 65, 1);
        x.call(13, 65, 1);
        x.call(19, 65, 65);
        Due.due("four called", x.told(7), 9);
        x.answer(0, 1);
        x.fails(0, 1);
        Due.due("an ANSWER and a FAILURE", x.told(7), 11);
        x.call(0, 1, 0);
        Due.due("a FAILED one", x.told(7), 12);
        x.drop(65);
        Due.due("a drop", x.told(7), 13);
        x.make(3);
        x.drop(65);
        x.call(0, 9, 0);
        x.again(6, 1, 0);
        x.numbers(0);
        x.told(7);
        Due.due("none that was refused or that only tells", x.told(7), 13);
        for (int i = 0; i < 300; i++) {
            x.answer(0, i);
        }
        Due.due("more than 128", x.told(7), 313);
    }

    private static void collected() {
        CarDesk x = new CarDesk();
        Desks.collect(x, 0, 1);
        Desks.collect(x, 1, 1, 0);
        Desks.collect(x, 2, 1, 2, 3);
        toldCollected(x, 1, 2, 3);
        x.collect(0, 128);
        x.collect(1, 2);
        x.collect(2, 256);
        toldCollected(x, 1, 2, 3);
        x.make(2);
        toldCollected(x, 1, 0, 3);
        x.make(4);
        toldCollected(x, 1, 0, 0);
        x.make(0);
        toldCollected(x, 0, 0, 0);
        for (int i = 0; i < 130; i++) {
            x.collect(0, 1);
            x.collect(1, 1);
            x.collect(2, 1);
        }
        toldCollected(x, 130, 130, 130);
        for (int what = 0; what < 3; what++) {
            toldOfTwoHundred(what);
        }
    }

    private static void toldOfTwoHundred(int what) {
        CarDesk x = new CarDesk();
        for (int i = 0; i < 203; i++) {
            x.collect(what, 1);
        }
        toldCollected(x, what == 0 ? 200 : 0, what == 1 ? 200 : 0, what == 2 ? 200 : 0);
    }

    private static void toldCollected(CarDesk x, int letters, int bits, int bytes) {
        Due.due("letters", x.told(8), letters);
        Due.due("bits", x.told(9), bits);
        Due.due("bytes", x.told(10), bytes);
    }

    private static void noSuchWhat() {
        CarDesk x = Desks.busyHouse();
        int[] unknown = {-1, -2, 11, 12, 64, Integer.MIN_VALUE, Integer.MAX_VALUE};
        for (int what : unknown) {
            Due.due("told(" + what + ")", x.told(what), -2);
            Due.due("told(" + what + ") first", new CarDesk().told(what), -2);
        }
    }

    private static void toldByNoCount() {
        CarDesk x = Desks.busyHouse();
        CarDesk unasked = Desks.busyHouse();
        x.told(-1);
        x.told(11);
        Due.due("told(0)", x.told(0), unasked.told(0));
        Due.due("the rest", Due.seen(x).equals(Due.seen(unasked)), true);
    }
}
