/** Promise 6: call. What each FORM does is tested with the terms. */
public final class Promise06CallTest {
    private static final int[] NUMBERS = {1, 65, 129, 193, 257, 321};

    public static void main(String[] args) {
        Sentences promise = new Sentences("Promise 6: call");
        promise.holds("A call of a thing: its answer.", Promise06CallTest::itsAnswer);
        promise.holds("-1 there is no such call", Promise06CallTest::noSuchCall);
        promise.holds("or no thing of that NUMBER", Promise06CallTest::noThing);
        promise.holds("that is there", Promise06CallTest::gone);
        promise.holds("and of the call's KIND", Promise06CallTest::otherKind);
        promise.holds("(COMPARES: nor of the NUMBER a)", Promise06CallTest::comparesWithNone);
        promise.holds("-2 a is not -1000000000 .. 1000000000", Promise06CallTest::outside);
        promise.holds("-3 it STEPS a SYSTEM of which a WORLD is there", Promise06CallTest::systemOfWorld);
        promise.holds("-4 it STEPS and TURNS are 50.", Promise06CallTest::fiftyTurns);
        promise.end();
    }

    private static void itsAnswer() {
        CarDesk x = Desks.house();
        int acts = x.told(7);
        int answered = x.told(5);
        Due.due("ASKS", x.call(0, 1, 0), 5);
        Due.due("SETS", x.call(7, 65, 9), 5);
        Due.due("STEPS", x.call(14, 129, 1), 1);
        Due.due("COMPARES", x.call(23, 321, 321), 1);
        Due.due("ACTS", x.told(7), acts + 4);
        Due.due("answered", x.told(5), answered + 4);
        Due.due("refused", x.told(0), 0);
        theTwentieth();
    }

    private static void theTwentieth() {
        for (int kind = 0; kind < 6; kind++) {
            CarDesk x = Desks.twentyOf(kind);
            int last = 64 * kind + 20;
            x.call(6 + kind, last, 77);
            Due.due("the 20th of " + kind, x.call(kind, last, 0), 77);
            Due.due("COMPARES with the 20th of " + kind, x.call(18 + kind, last, last), 1);
            Due.due("no 21st of " + kind, x.call(kind, last + 1, 0), -1);
            Due.due("COMPARES with no 21st of " + kind, x.call(18 + kind, last, last + 1), -1);
        }
    }

    private static void noSuchCall() {
        int[] calls = {-1, -6, -24, 24, 30, Integer.MIN_VALUE, Integer.MAX_VALUE};
        for (int call : calls) {
            Due.refused("call(" + call + ", 1, 1)", Desks::busyHouse, d -> d.call(call, 1, 1), -1);
            Due.refused("call(" + call + ", 1, 2 billions)", Desks::busyHouse,
                d -> d.call(call, 1, 2 * Desks.BILLION), -1);
        }
        for (int kind = 0; kind < 6; kind++) {
            CarDesk x = Desks.house();
            Due.due("call 24 is of no KIND " + kind, x.call(24 + kind, NUMBERS[kind], 1), -1);
            Due.due("call -1 is of no KIND " + kind, x.call(-6 + kind, NUMBERS[kind], 1), -1);
        }
    }

    private static void noThing() {
        int[] numbers = {0, 2, 20, 21, 63, 64, 67, 84, 85, 127, 128, 130, 192, 194, 256, 258, 320, 322, 383,
            384, 385, -1, -63, -64, -65, Integer.MIN_VALUE, Integer.MAX_VALUE};
        for (int number : numbers) {
            CarDesk x = Desks.house();
            for (int call = 0; call < 24; call++) {
                int a = NUMBERS[call % 6];
                Due.due("call(" + call + ", " + number + ", " + a + ")", x.call(call, number, a), -1);
            }
            Due.due("refused", x.told(0), 24);
            Due.refused("call(0, " + number + ", 1)", Desks::busyHouse, d -> d.call(0, number, 1), -1);
        }
    }

    private static void gone() {
        for (int call = 0; call < 24; call++) {
            int asked = call;
            int number = call % 6 == 1 ? 65 : NUMBERS[call % 6];
            Due.refused("call " + call + " of one that is gone", () -> houseOfTwoWithout(number),
                d -> d.call(asked, number, number + 1), -1);
        }
    }

    /** Two things of each KIND, and the one of that NUMBER gone. */
    private static CarDesk houseOfTwoWithout(int number) {
        CarDesk x = new CarDesk();
        for (int i = 1; i <= 2; i++) {
            Desks.system(x, i);
            Desks.bus(x, 1);
            Desks.pack(x, i);
        }
        for (int kind = 1; kind <= 5; kind += 2) {
            x.make(kind);
            x.make(kind);
        }
        Due.due("drop(" + number + ")", x.drop(number), true);
        return x;
    }

    private static void otherKind() {
        for (int call = 0; call < 24; call++) {
            for (int kind = 0; kind < 6; kind++) {
                if (kind != call % 6) {
                    CarDesk x = Desks.house();
                    int own = NUMBERS[call % 6];
                    Due.due("call " + call + " of KIND " + kind, x.call(call, NUMBERS[kind], own), -1);
                    Due.due("refused", x.told(0), 1);
                }
            }
            int asked = call;
            int other = NUMBERS[(call + 1) % 6];
            Due.refused("call(" + call + ", " + other + ")", Desks::busyHouse, d -> d.call(asked, other, other), -1);
        }
    }

    private static void comparesWithNone() {
        long[] others = {0, 2, 21, 63, 65, -1, -63, 64, 129, 384, 385, 1000000000L, 1000000001L, (1L << 32) + 1,
            (1L << 33) + 1, -(1L << 32) + 1, Long.MIN_VALUE, Long.MIN_VALUE + 1, Long.MAX_VALUE};
        for (long a : others) {
            Due.refused("call(18, 1, " + a + ")", Desks::busyHouse, d -> d.call(18, 1, a), -1);
        }
        for (int kind = 0; kind < 6; kind++) {
            int call = 18 + kind;
            int number = kind == 1 ? 66 : NUMBERS[kind] + 1;
            int dropped = kind == 1 ? 65 : NUMBERS[kind];
            Due.refused("COMPARES with one that is gone, " + kind, () -> houseOfTwoWithout(dropped),
                d -> d.call(call, number, dropped), -1);
            CarDesk x = Desks.house();
            for (int other = 0; other < 6; other++) {
                long due = other == kind ? 1 : -1;
                Due.due("COMPARES " + kind + " with " + other, x.call(call, NUMBERS[kind], NUMBERS[other]), due);
            }
        }
    }

    private static void outside() {
        long[] arguments = {Desks.BILLION + 1, -Desks.BILLION - 1, 1L << 32, -(1L << 32), Long.MIN_VALUE,
            Long.MAX_VALUE};
        for (int call = 0; call < 18; call++) {
            int asked = call;
            int number = NUMBERS[call % 6];
            for (long a : arguments) {
                Due.refused("call(" + call + ", " + number + ", " + a + ")", Desks::busyHouse,
                    d -> d.call(asked, number, a), -2);
            }
            if (call != 12) {
                Due.due("the most", Desks.house().call(call, number, Desks.BILLION) >= 0, true);
                Due.due("the least", Desks.house().call(call, number, -Desks.BILLION) >= 0, true);
            }
        }
        CarDesk x = new CarDesk();
        Desks.system(x, 1);
        Due.due("STEPS a SYSTEM by the most", x.call(12, 1, Desks.BILLION), 1);
        Due.due("STEPS a SYSTEM by the least", x.call(12, 1, -Desks.BILLION), 2);
    }

    private static void systemOfWorld() {
        Due.refused("STEPS a SYSTEM of which a WORLD is there", Desks::busyHouse, d -> d.call(12, 1, 1), -3);
        CarDesk x = Desks.house();
        Due.due("ASKS it", x.call(0, 1, 1), 5);
        Due.due("SETS it", x.call(6, 1, 6), 5);
        Due.due("COMPARES it", x.call(18, 1, 1), 1);
        Desks.system(x, 1);
        Due.due("STEPS another SYSTEM", x.call(12, 2, 1), 1);
        Due.due("STEPS the first one", x.call(12, 1, 1), -3);
        x.drop(65);
        Due.due("one WORLD is gone", x.call(12, 1, 1), -3);
        x.drop(193);
        x.drop(66);
        Due.due("both WORLDS are gone", x.call(12, 1, 1), 1);
        x.make(1);
        Due.due("the newer SYSTEM has a WORLD", x.call(12, 2, 1), -3);
        Due.due("the older one has none", x.call(12, 1, 1), 2);
        Due.due("STEPS a WORLD of which a TESTER is there", Desks.house().call(13, 66, 1), 1);
        Due.due("-2 before -3", Desks.house().call(12, 1, Desks.BILLION + 1), -2);
    }

    private static void fiftyTurns() {
        for (int kind = 0; kind < 6; kind++) {
            int stepped = kind;
            CarDesk x = turned(kind);
            Due.due("the 50th", x.call(12 + kind, NUMBERS[kind], 1), 50);
            long state = x.call(kind, NUMBERS[kind], 0);
            Due.due("the 51st", x.call(12 + kind, NUMBERS[kind], 1), -4);
            Due.due("the STATE stays", x.call(kind, NUMBERS[kind], 0), state);
            Due.due("SETS", x.call(6 + kind, NUMBERS[kind], 1), state);
            Due.due("SETS sets no TURNS", x.call(12 + kind, NUMBERS[kind], 1), -4);
            Due.due("COMPARES", x.call(18 + kind, NUMBERS[kind], NUMBERS[kind]), 1);
            Due.refused("the 51st of " + kind, () -> turnedOut(stepped),
                d -> d.call(12 + stepped, NUMBERS[stepped], 1), -4);
            Due.refused("the 51st of " + kind + ", outside", () -> turnedOut(stepped),
                d -> d.call(12 + stepped, NUMBERS[stepped], Desks.BILLION + 1), -2);
        }
        CarDesk x = turnedOut(2);
        Desks.bus(x, 1);
        Due.due("another BUS has its own TURNS", x.call(14, 130, 1), 1);
        Due.due("the first one has no room", x.call(14, 129, 1), -4);
        CarDesk y = turnedOut(0);
        y.make(1);
        Due.due("-3 before -4", y.call(12, 1, 1), -3);
    }

    private static CarDesk turned(int kind) {
        CarDesk x = Desks.house();
        if (kind == 0) {
            x.drop(65);
            x.drop(193);
            x.drop(66);
        }
        for (int i = 1; i < 50; i++) {
            Due.due("STEPS " + kind, x.call(12 + kind, NUMBERS[kind], 1), i);
        }
        return x;
    }

    private static CarDesk turnedOut(int kind) {
        CarDesk x = turned(kind);
        x.call(12 + kind, NUMBERS[kind], 1);
        return x;
    }
}
