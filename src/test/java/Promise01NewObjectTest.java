/** Promise 1: nothing collected, no things, no ANSWERS, no FAILURES. */
public final class Promise01NewObjectTest {
    public static void main(String[] args) {
        CarDesk x = new CarDesk();
        for (int what = 0; what <= 10; what++) {
            Due.due("told(" + what + ")", x.told(what), 0);
        }
        for (int kind = 0; kind < 6; kind++) {
            Due.due("numbers(" + kind + ")", x.numbers(kind), 0);
        }
        for (int kind = 0; kind < 6; kind++) {
            Due.due("make(" + kind + ")", x.make(kind), -3);
        }
        noThings();
        noAnswersAndFailures();
        desksAreApart();
        Due.end();
    }

    private static void noThings() {
        CarDesk x = new CarDesk();
        for (int number = -1; number <= 384; number++) {
            Due.due("drop(" + number + ")", x.drop(number), false);
        }
        for (int call = 0; call < 24; call++) {
            int number = 64 * (call % 6) + 1;
            Due.due("call(" + call + ", " + number + ")", x.call(call, number, number), -1);
        }
    }

    private static void noAnswersAndFailures() {
        CarDesk x = new CarDesk();
        for (int call = 0; call < 24; call++) {
            Due.due("fails(" + call + ", 0)", x.fails(call, 0), 0);
        }
        CarDesk y = Desks.house();
        Due.due("a SYSTEM asked", y.call(0, 1, 0), 5);
        Due.due("a WORLD asked", y.call(1, 65, 0), 5);
        Due.due("a BUS asked", y.call(2, 129, 0), 2002);
        Due.due("a TESTER asked", y.call(3, 193, 0), 0);
        Due.due("a PACKAGE asked", y.call(4, 257, 0), 65536 * 4 + 4);
        Due.due("a FLEET asked", y.call(5, 321, 0), 2);
        y.call(13, 65, 0);
        Due.due("a WORLD stepped without an ANSWER", y.call(1, 65, 0), 155);
        y.call(16, 257, 7);
        Due.due("a PACKAGE stepped without an ANSWER", y.call(4, 257, 0), 65536 * 4 + 4);
    }

    private static void desksAreApart() {
        CarDesk busy = Desks.busyHouse();
        CarDesk x = new CarDesk();
        Due.due("a new desk beside a busy one: told(7)", x.told(7), 0);
        Due.due("a new desk beside a busy one: make(0)", x.make(0), -3);
        Due.due("the busy one: numbers(1)", busy.numbers(1), 2);
    }
}
