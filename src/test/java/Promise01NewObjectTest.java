/** Promise 1: A new object. */
public final class Promise01NewObjectTest {
    public static void main(String[] args) {
        Sentences promise = new Sentences("Promise 1: A new object");
        promise.holds("Nothing collected", Promise01NewObjectTest::nothingCollected);
        promise.holds("no things", Promise01NewObjectTest::noThings);
        promise.holds("no ANSWERS", Promise01NewObjectTest::noAnswers);
        promise.holds("no FAILURES", Promise01NewObjectTest::noFailures);
        noCounts();
        desksAreApart();
        promise.end();
    }

    private static void nothingCollected() {
        CarDesk x = new CarDesk();
        for (int what = 8; what <= 10; what++) {
            Due.due("told(" + what + ")", x.told(what), 0);
        }
        Due.due("a SYSTEM of no letters", x.make(0), -3);
        Due.due("a BUS of no bits", x.make(2), -3);
        Due.due("a PACKAGE of no bytes", x.make(4), -3);
        for (int what = 0; what < 3; what++) {
            Due.due("the first of sort " + what, x.collect(what, 0), 1);
        }
    }

    private static void noThings() {
        CarDesk x = new CarDesk();
        for (int kind = 0; kind < 6; kind++) {
            Due.due("numbers(" + kind + ")", x.numbers(kind), 0);
        }
        Due.due("things made", x.told(6), 0);
        Due.due("a WORLD of no SYSTEM", x.make(1), -3);
        Due.due("a TESTER of no WORLD", x.make(3), -3);
        Due.due("a FLEET of no WORLDS", x.make(5), -3);
        for (int number = -1; number <= 384; number++) {
            Due.due("drop(" + number + ")", x.drop(number), false);
        }
        for (int call = 0; call < 24; call++) {
            int number = 64 * (call % 6) + 1;
            Due.due("call(" + call + ", " + number + ")", x.call(call, number, number), -1);
        }
    }

    private static void noAnswers() {
        CarDesk x = Desks.house();
        Due.due("a SYSTEM asked", x.call(0, 1, 0), 5);
        Due.due("a WORLD asked", x.call(1, 65, 0), 5);
        Due.due("a BUS asked", x.call(2, 129, 0), 2002);
        Due.due("a TESTER asked", x.call(3, 193, 0), 0);
        Due.due("a PACKAGE asked", x.call(4, 257, 0), 65536 * 4 + 4);
        Due.due("a FLEET asked", x.call(5, 321, 0), 2);
        x.call(13, 65, 0);
        Due.due("a WORLD stepped without an ANSWER", x.call(1, 65, 0), 155);
        x.call(16, 257, 7);
        Due.due("a PACKAGE stepped without an ANSWER", x.call(4, 257, 0), 65536 * 4 + 4);
    }

    private static void noFailures() {
        CarDesk x = new CarDesk();
        for (int call = 0; call < 24; call++) {
            Due.due("fails(" + call + ", 0)", x.fails(call, 0), 0);
        }
        CarDesk y = Desks.house();
        for (int call = 0; call < 24; call++) {
            int number = 64 * (call % 6) + 1;
            y.call(call, number, number);
        }
        for (int what = 1; what <= 4; what++) {
            Due.due("told(" + what + ")", y.told(what), 0);
        }
    }

    private static void noCounts() {
        CarDesk x = new CarDesk();
        for (int what = 0; what <= 10; what++) {
            Due.due("told(" + what + ")", x.told(what), 0);
        }
    }

    private static void desksAreApart() {
        CarDesk busy = Desks.busyHouse();
        CarDesk x = new CarDesk();
        Due.due("a new desk beside a busy one: told(7)", x.told(7), 0);
        Due.due("a new desk beside a busy one: make(0)", x.make(0), -3);
        Due.due("a new desk beside a busy one: fails(8, 0)", x.fails(8, 0), 0);
        Due.due("the busy one: numbers(1)", busy.numbers(1), 2);
        Due.due("the busy one: fails(8, 0)", busy.fails(8, 0), 3);
    }
}
