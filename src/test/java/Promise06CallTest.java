/** Promise 6: call, with the FORMS of each KIND. */
public final class Promise06CallTest {
    private static final int[] NUMBERS = {1, 65, 129, 193, 257, 321};

    public static void main(String[] args) {
        asks();
        sets();
        steps();
        compares();
        unknown();
        outside();
        steppedWithWorld();
        fiftyTurns();
        orderOfRefusals();
        Due.end();
    }

    private static void asks() {
        CarDesk x = Desks.house();
        long[] states = {5, 5, 2002, 0, 65536 * 4 + 4, 2};
        for (int kind = 0; kind < 6; kind++) {
            Due.due("ASKS " + kind, x.call(kind, NUMBERS[kind], Desks.BILLION), states[kind]);
            Due.due("ASKS " + kind + " again", x.call(kind, NUMBERS[kind], -Desks.BILLION), states[kind]);
        }
        wraps();
    }

    private static void wraps() {
        CarDesk x = new CarDesk();
        Desks.bus(x, 1);
        x.call(8, 129, -2);
        x.call(14, 129, 63);
        Due.due("the most", x.call(2, 129, 0), Long.MAX_VALUE);
        x.answer(2, 1);
        Due.due("and one", x.call(2, 129, 0), Long.MIN_VALUE);
    }

    private static void sets() {
        for (int kind = 0; kind < 6; kind++) {
            CarDesk x = Desks.house();
            long was = x.call(kind, NUMBERS[kind], 0);
            Due.due("SETS " + kind, x.call(6 + kind, NUMBERS[kind], -Desks.BILLION), was);
            Due.due("SETS " + kind + " again", x.call(6 + kind, NUMBERS[kind], Desks.BILLION), -Desks.BILLION);
            Due.due("ASKS " + kind + " then", x.call(kind, NUMBERS[kind], 0), Desks.BILLION);
        }
    }

    private static void steps() {
        stepSystem();
        stepWorld();
        stepBus();
        stepTester();
        stepPackage();
        stepFleet();
    }

    private static void stepSystem() {
        CarDesk x = new CarDesk();
        Desks.system(x, 1);
        Due.due("STEPS a SYSTEM", x.call(12, 1, 6), 1);
        Due.due("it is 218 xor 6", x.call(0, 1, 0), 218 ^ 6);
        Due.due("STEPS it by less than 0", x.call(12, 1, -1), 2);
        Due.due("it is turned round", x.call(0, 1, 0), ~(218 ^ 6));
    }

    private static void stepWorld() {
        CarDesk x = Desks.house();
        x.answer(13, -40);
        Due.due("STEPS a WORLD", x.call(13, 65, 7), 1);
        Due.due("it is 31 times 5, 7 and -40", x.call(1, 65, 0), 122);
        Due.due("the other one stays", x.call(1, 66, 0), 5);
        Due.due("so does its SYSTEM", x.call(0, 1, 0), 5);
        long state = 122;
        for (int i = 2; i <= 50; i++) {
            state = 31 * state + Desks.BILLION - 40;
            Due.due("STEPS a WORLD " + i, x.call(13, 65, Desks.BILLION), i);
        }
        Due.due("it wraps", x.call(1, 65, 0), state);
    }

    private static void stepBus() {
        CarDesk x = new CarDesk();
        Desks.bus(x, 1);
        long state = -999999997L;
        x.call(8, 129, state);
        long[] by = {0, 1, 63, 62, 64, 65, -1, -64, 33, 1000000000L, -1000000000L, 32};
        for (int i = 0; i < by.length; i++) {
            state = Long.rotateLeft(state, (int) by[i]);
            Due.due("STEPS a BUS by " + by[i], x.call(14, 129, by[i]), i + 1);
            Due.due("a BUS turned by " + by[i], x.call(2, 129, 0), state);
        }
    }

    private static void stepTester() {
        CarDesk x = Desks.house();
        x.call(7, 66, 40);
        Due.due("STEPS a TESTER", x.call(15, 193, 2), 1);
        Due.due("it, 40 and 2", x.call(3, 193, 0), 42);
        x.call(7, 66, -10);
        x.make(1);
        x.call(7, 67, 5000);
        Due.due("STEPS it again", x.call(15, 193, 0), 2);
        Due.due("it and its WORLD, no newer one", x.call(3, 193, 0), 32);
        Due.due("the WORLD stays", x.call(1, 66, 0), -10);
    }

    private static void stepPackage() {
        CarDesk x = Desks.house();
        long state = 65536 * 4 + 4;
        long[][] rows = {{0, 5}, {7, 0}, {7, 3}, {1000000000L, 1000000000L}, {-1000000000L, 999999999L}};
        for (int i = 0; i < rows.length; i++) {
            x.answer(16, rows[i][1]);
            Due.due("STEPS a PACKAGE", x.call(16, 257, rows[i][0]), i + 1);
            state += rows[i][0] * rows[i][1];
            Due.due("a PACKAGE then", x.call(4, 257, 0), state);
        }
    }

    private static void stepFleet() {
        CarDesk x = Desks.house();
        x.call(7, 65, 30);
        x.call(7, 66, -400);
        Due.due("STEPS a FLEET", x.call(17, 321, 1), 1);
        Due.due("all WORLDS and 1, not what it was", x.call(5, 321, 0), -369);
        x.drop(65);
        Due.due("STEPS it again", x.call(17, 321, 3), 2);
        Due.due("those that are there", x.call(5, 321, 0), -397);
        x.drop(193);
        x.drop(66);
        Due.due("STEPS it without a WORLD", x.call(17, 321, 9), 3);
        Due.due("a alone", x.call(5, 321, 0), 9);
    }

    private static void compares() {
        CarDesk x = new CarDesk();
        Desks.bus(x, 1);
        Desks.bus(x, 1);
        comparesAs(x, 5, 5, 1);
        comparesAs(x, 4, 5, 0);
        comparesAs(x, 5, 4, 2);
        comparesAs(x, -1, 1, 0);
        comparesAs(x, 1, -1, 2);
        Due.due("with itself", x.call(20, 129, 129), 1);
        x.call(8, 129, 1);
        x.call(14, 129, 63);
        x.call(8, 130, 1000000000);
        Due.due("the least of all", x.call(20, 129, 130), 0);
        Due.due("with the least of all", x.call(20, 130, 129), 2);
        for (int kind = 0; kind < 6; kind++) {
            CarDesk y = Desks.house();
            Due.due("COMPARES " + kind, y.call(18 + kind, NUMBERS[kind], NUMBERS[kind]), 1);
        }
    }

    private static void comparesAs(CarDesk x, long first, long second, long want) {
        x.call(8, 129, first);
        x.call(8, 130, second);
        Due.due("COMPARES " + first + " with " + second, x.call(20, 129, 130), want);
        Due.due("it stays", x.call(2, 129, 0), first);
    }

    private static void unknown() {
        int[] calls = {-1, -6, 24, 30, Integer.MIN_VALUE, Integer.MAX_VALUE};
        for (int call : calls) {
            Due.refused("call(" + call + ", 1, 1)", Desks::busyHouse, d -> d.call(call, 1, 1), -1);
        }
        int[] numbers = {0, 2, 20, 21, 64, 67, 84, 85, 128, 130, 192, 256, 320, 322, 384, 385,
            -1, -63, -64, -65, Integer.MIN_VALUE, Integer.MAX_VALUE};
        for (int number : numbers) {
            CarDesk x = Desks.house();
            for (int call = 0; call < 18; call++) {
                Due.due("call(" + call + ", " + number + ", 1)", x.call(call, number, 1), -1);
            }
            Due.due("refused", x.told(0), 18);
        }
        for (int call = 0; call < 24; call++) {
            int other = NUMBERS[(call + 1) % 6];
            int asked = call;
            Due.refused("call(" + call + ", " + other + ")", Desks::busyHouse, d -> d.call(asked, other, other), -1);
        }
        comparesUnknown();
        CarDesk x = Desks.house();
        x.drop(65);
        Due.due("one that is gone", x.call(1, 65, 0), -1);
        Due.due("COMPARES with one that is gone", x.call(19, 66, 65), -1);
        Due.due("COMPARES one that is gone", x.call(19, 65, 66), -1);
    }

    private static void comparesUnknown() {
        long[] others = {0, 2, 65, -1, 64, 129, 1000000001L, (1L << 32) + 1, (1L << 33) + 1, -(1L << 32) + 1,
            Long.MIN_VALUE, Long.MIN_VALUE + 1, Long.MAX_VALUE};
        for (long a : others) {
            Due.refused("call(18, 1, " + a + ")", Desks::busyHouse, d -> d.call(18, 1, a), -1);
        }
    }

    private static void outside() {
        long[] arguments = {Desks.BILLION + 1, -Desks.BILLION - 1, 1L << 32, Long.MIN_VALUE, Long.MAX_VALUE};
        for (long a : arguments) {
            for (int call = 0; call < 18; call++) {
                int asked = call;
                Due.refused("call(" + call + ", .., " + a + ")", Desks::busyHouse,
                    d -> d.call(asked, NUMBERS[asked % 6], a), -2);
            }
        }
    }

    private static void steppedWithWorld() {
        Due.refused("STEPS a SYSTEM of which a WORLD is there", Desks::busyHouse, d -> d.call(12, 1, 1), -3);
        CarDesk x = Desks.house();
        Due.due("ASKS it", x.call(0, 1, 1), 5);
        Due.due("SETS it", x.call(6, 1, 6), 5);
        Due.due("COMPARES it", x.call(18, 1, 1), 1);
        Desks.system(x, 1);
        Due.due("STEPS another SYSTEM", x.call(12, 2, 1), 1);
        Due.due("STEPS the first one", x.call(12, 1, 1), -3);
        x.drop(65);
        Due.due("one WORLD is gone", x.call(12, 1, 1), -3);
        x.drop(193);
        x.drop(66);
        Due.due("both WORLDS are gone", x.call(12, 1, 1), 1);
        Due.due("STEPS a WORLD of which a TESTER is there", Desks.house().call(13, 66, 1), 1);
    }

    private static void fiftyTurns() {
        for (int kind = 0; kind < 6; kind++) {
            int stepped = kind;
            CarDesk x = turned(kind);
            Due.due("the 50th", x.call(12 + kind, NUMBERS[kind], 1), 50);
            long state = x.call(kind, NUMBERS[kind], 0);
            Due.due("the 51st", x.call(12 + kind, NUMBERS[kind], 1), -4);
            Due.due("the STATE stays", x.call(kind, NUMBERS[kind], 0), state);
            Due.due("SETS", x.call(6 + kind, NUMBERS[kind], 1), state);
            Due.due("SETS sets no TURNS", x.call(12 + kind, NUMBERS[kind], 1), -4);
            Due.refused("the 51st of " + kind, () -> turnedOut(stepped),
                d -> d.call(12 + stepped, NUMBERS[stepped], 1), -4);
        }
        CarDesk x = turnedOut(2);
        Desks.bus(x, 1);
        Due.due("another BUS has its own TURNS", x.call(14, 130, 1), 1);
    }

    private static CarDesk turned(int kind) {
        CarDesk x = Desks.house();
        if (kind == 0) {
            x.drop(65);
            x.drop(193);
            x.drop(66);
        }
        for (int i = 1; i < 50; i++) {
            Due.due("STEPS " + kind, x.call(12 + kind, NUMBERS[kind], 1), i);
        }
        return x;
    }

    private static CarDesk turnedOut(int kind) {
        CarDesk x = turned(kind);
        x.call(12 + kind, NUMBERS[kind], 1);
        return x;
    }

    private static void orderOfRefusals() {
        CarDesk x = turnedOut(0);
        Due.due("-1 before -2", x.call(12, 2, 2 * Desks.BILLION), -1);
        Due.due("-2 before -4", x.call(12, 1, 2 * Desks.BILLION), -2);
        x.make(1);
        Due.due("-3 before -4", x.call(12, 1, 1), -3);
        Due.due("-2 before -3", x.call(12, 1, 2 * Desks.BILLION), -2);
    }
}
