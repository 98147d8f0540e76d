/** Promise 7: told. */
public final class Promise07ToldTest {
    public static void main(String[] args) {
        refusals();
        failures();
        answeredMadeAndActs();
        collected();
        noSuchWhat();
        Due.end();
    }

    private static void refusals() {
        CarDesk x = Desks.house();
        x.collect(3, 0);
        x.collect(0, -1);
        x.answer(24, 0);
        x.answer(0, 2 * Desks.BILLION);
        x.fails(-1, 0);
        x.fails(0, 9);
        x.make(6);
        x.make(0);
        x.call(24, 1, 1);
        x.call(0, 1, 2 * Desks.BILLION);
        x.drop(1);
        x.drop(2);
        Due.due("every refused one counts", x.told(0), 12);
        x.told(11);
        x.told(-1);
        x.numbers(6);
        x.again(24, 1, 1);
        x.again(0, 1, 2 * Desks.BILLION);
        Due.due("told, numbers and again do not", x.told(0), 12);
        x.collect(0, 0);
        x.drop(193);
        Due.due("nor does what is done", x.told(0), 12);
    }

    private static void failures() {
        CarDesk x = Desks.house();
        x.fails(4, 3);
        x.fails(22, 1);
        toldFailed(x, 0, 0, 0, 0);
        x.call(4, 257, 0);
        toldFailed(x, 1, 3, 4, 257);
        x.fails(4, 2);
        toldFailed(x, 1, 3, 4, 257);
        x.call(22, 257, 257);
        toldFailed(x, 2, 1, 22, 257);
        x.call(4, 258, 0);
        toldFailed(x, 2, 1, 22, 257);
        x.call(0, 1, 0);
        toldFailed(x, 2, 1, 22, 257);
        x.again(4, 257, 0);
        toldFailed(x, 2, 1, 22, 257);
        x.drop(257);
        toldFailed(x, 2, 1, 22, 257);
        x.fails(0, 4);
        x.call(0, 1, 0);
        toldFailed(x, 3, 4, 0, 1);
        Due.due("a FAILED call is none that was answered", x.told(5), 2);
        Due.due("a FAILED call is none that was REFUSED", x.told(0), 1);
    }

    private static void toldFailed(CarDesk x, int count, int failure, int call, int number) {
        Due.due("how many FAILED", x.told(1), count);
        Due.due("the last FAILURE", x.told(2), failure);
        Due.due("the call that FAILED last", x.told(3), call);
        Due.due("the NUMBER that FAILED last", x.told(4), number);
    }

    private static void answeredMadeAndActs() {
        CarDesk x = new CarDesk();
        Desks.collect(x, 0, 1, 2, 3);
        toldCounts(x, 0, 0, 3);
        x.make(0);
        x.make(1);
        toldCounts(x, 0, 2, 5);
        x.call(0, 1, 0);
        x.call(7, 65, 1);
        x.call(13, 65, 1);
        x.call(19, 65, 65);
        toldCounts(x, 4, 2, 9);
        x.answer(0, 1);
        x.fails(0, 1);
        toldCounts(x, 4, 2, 11);
        x.call(0, 1, 0);
        toldCounts(x, 4, 2, 12);
        x.drop(65);
        toldCounts(x, 4, 2, 13);
        x.make(3);
        x.drop(65);
        x.call(0, 9, 0);
        x.again(6, 1, 0);
        x.numbers(0);
        toldCounts(x, 4, 2, 13);
        x.make(1);
        toldCounts(x, 4, 3, 14);
        for (int i = 0; i < 300; i++) {
            x.answer(0, i);
        }
        Due.due("ACTS are noted beyond 128", x.told(7), 314);
    }

    private static void toldCounts(CarDesk x, int answered, int made, int acts) {
        Due.due("calls that were answered", x.told(5), answered);
        Due.due("things made", x.told(6), made);
        Due.due("ACTS", x.told(7), acts);
    }

    private static void collected() {
        CarDesk x = new CarDesk();
        Desks.collect(x, 0, 1);
        Desks.collect(x, 1, 1, 0);
        Desks.collect(x, 2, 1, 2, 3);
        toldCollected(x, 1, 2, 3);
        x.make(2);
        toldCollected(x, 1, 0, 3);
        x.make(4);
        toldCollected(x, 1, 0, 0);
        x.make(0);
        toldCollected(x, 0, 0, 0);
    }

    private static void toldCollected(CarDesk x, int letters, int bits, int bytes) {
        Due.due("letters", x.told(8), letters);
        Due.due("bits", x.told(9), bits);
        Due.due("bytes", x.told(10), bytes);
    }

    private static void noSuchWhat() {
        CarDesk x = Desks.busyHouse();
        int[] unknown = {-1, 11, 12, Integer.MIN_VALUE, Integer.MAX_VALUE};
        int refused = x.told(0);
        for (int what : unknown) {
            Due.due("told(" + what + ")", x.told(what), -2);
        }
        Due.due("told by no count", x.told(0), refused);
    }
}
