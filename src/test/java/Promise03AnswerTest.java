/** Promise 3: answer. */
public final class Promise03AnswerTest {
    public static void main(String[] args) {
        Sentences promise = new Sentences("Promise 3: answer");
        promise.holds("The ANSWER of a call: 1.", Promise03AnswerTest::answers);
        promise.holds("-1 there is no such call", Promise03AnswerTest::noSuchCall);
        promise.holds("-2 v is not -1000000000 .. 1000000000.", Promise03AnswerTest::outside);
        promise.end();
    }

    private static void answers() {
        everyCallHasItsOwn();
        whereItCounts();
        CarDesk x = new CarDesk();
        Due.due("without a thing", x.answer(0, 1), 1);
        Due.due("the same again", x.answer(0, 1), 1);
        Due.due("ACTS", x.told(7), 2);
        Due.due("no call was answered by it", x.told(5), 0);
    }

    private static void everyCallHasItsOwn() {
        CarDesk x = Desks.house();
        int[] numbers = {1, 65, 129, 193, 257, 321};
        long[] states = new long[6];
        for (int kind = 0; kind < 6; kind++) {
            states[kind] = x.call(kind, numbers[kind], 0);
        }
        for (int call = 0; call < 24; call++) {
            Due.due("answer(" + call + ")", x.answer(call, 100 + call), 1);
        }
        for (int kind = 0; kind < 6; kind++) {
            Due.due("asked " + kind, x.call(kind, numbers[kind], 0), states[kind] + 100 + kind);
        }
        Due.due("an ANSWER again", x.answer(0, -7), 1);
        Due.due("the newer one stands", x.call(0, 1, 0), -2);
        Due.due("no ANSWER again", x.answer(0, 0), 1);
        Due.due("the STATE alone", x.call(0, 1, 0), 5);
    }

    private static void whereItCounts() {
        CarDesk x = Desks.house();
        for (int call = 6; call < 24; call++) {
            x.answer(call, 1000);
        }
        Due.due("SETS", x.call(6, 1, 8), 5);
        Due.due("COMPARES", x.call(18, 1, 1), 1);
        Due.due("STEPS a WORLD", x.call(13, 65, 1), 1);
        Due.due("the WORLD then", x.call(1, 65, 0), 31 * 5 + 1 + 1000);
        Due.due("STEPS a PACKAGE", x.call(16, 257, 2), 1);
        Due.due("the PACKAGE then", x.call(4, 257, 0), 65536 * 4 + 4 + 2000);
        Due.due("STEPS a BUS", x.call(14, 129, 1), 1);
        Due.due("the BUS then", x.call(2, 129, 0), 4004);
        Due.due("STEPS a TESTER", x.call(15, 193, 1), 1);
        Due.due("the TESTER then", x.call(3, 193, 0), 6);
        Due.due("STEPS a FLEET", x.call(17, 321, 0), 1);
        Due.due("the FLEET then", x.call(5, 321, 0), 1156 + 5);
        CarDesk y = new CarDesk();
        Desks.system(y, 1);
        y.answer(12, 1000);
        Due.due("STEPS a SYSTEM", y.call(12, 1, 2), 1);
        Due.due("the SYSTEM then", y.call(0, 1, 0), 218 ^ 2);
    }

    private static void noSuchCall() {
        Due.due("the first call", new CarDesk().answer(0, 1), 1);
        Due.due("the last call", new CarDesk().answer(23, 1), 1);
        int[] unknown = {-1, -24, 24, 25, Integer.MIN_VALUE, Integer.MAX_VALUE};
        for (int call : unknown) {
            Due.refused("answer(" + call + ", 0)", Desks::busyHouse, d -> d.answer(call, 0), -1);
            Due.refused("answer(" + call + ", 2 billions)", Desks::busyHouse,
                d -> d.answer(call, 2 * Desks.BILLION), -1);
        }
    }

    private static void outside() {
        CarDesk x = Desks.house();
        Due.due("the most", x.answer(0, Desks.BILLION), 1);
        Due.due("asked with the most", x.call(0, 1, 0), 1000000005L);
        Due.due("the least", x.answer(0, -Desks.BILLION), 1);
        Due.due("asked with the least", x.call(0, 1, 0), -999999995L);
        long[] outside = {Desks.BILLION + 1, -Desks.BILLION - 1, 1L << 32, -(1L << 32), Long.MIN_VALUE,
            Long.MAX_VALUE};
        for (long v : outside) {
            for (int last = 0; last < 24; last += 23) {
                int call = last;
                Due.refused("answer(" + call + ", " + v + ")", Desks::busyHouse, d -> d.answer(call, v), -2);
            }
        }
    }
}
