/** Tests of the terms about CALLS, their FORMS and their FAILURES. */
final class TermsOfCalls {
    private static final int[] NUMBERS = {1, 65, 129, 193, 257, 321};

    private TermsOfCalls() {
    }

    static void calls() {
        for (int call = 0; call < 24; call++) {
            CarDesk x = Desks.house();
            int number = NUMBERS[call % 6];
            Due.due("answer(" + call + ")", x.answer(call, 0), 1);
            Due.due("fails(" + call + ")", x.fails(call, 0), 0);
            Due.due("call(" + call + ")", x.call(call, number, number), call == 12 ? -3 : was(call));
        }
        for (int call = -1; call <= 24; call += 25) {
            CarDesk x = Desks.house();
            Due.due("answer(" + call + ")", x.answer(call, 0), -1);
            Due.due("fails(" + call + ")", x.fails(call, 0), -1);
            for (int number : NUMBERS) {
                Due.due("call(" + call + ", " + number + ")", x.call(call, number, number), -1);
                Due.due("again(" + call + ", " + number + ")", x.again(call, number, number), -1);
            }
        }
    }

    /** What a call of the first thing of its KIND answers in a new house. */
    private static long was(int call) {
        long[] states = {5, 5, 2002, 0, 65536 * 4 + 4, 2};
        return call < 12 ? states[call % 6] : 1;
    }

    static void kindAndForm() {
        for (int call = 0; call < 24; call++) {
            for (int kind = 0; kind < 6; kind++) {
                CarDesk x = Desks.house();
                int number = NUMBERS[kind];
                long due = kind != call % 6 ? -1 : call == 12 ? -3 : was(call);
                Due.due("call(" + call + ", " + number + ")", x.call(call, number, number), due);
            }
        }
    }

    static void answerAtFirst() {
        for (int kind = 0; kind < 6; kind++) {
            CarDesk x = Desks.house();
            Due.due("ASKS " + kind, x.call(kind, NUMBERS[kind], 0), was(kind));
            x.answer(kind, 1);
            Due.due("ASKS " + kind + " with an ANSWER", x.call(kind, NUMBERS[kind], 0), was(kind) + 1);
        }
        CarDesk x = Desks.house();
        x.call(13, 65, 0);
        Due.due("a WORLD stepped without an ANSWER", x.call(1, 65, 0), 155);
        x.call(16, 257, 9);
        Due.due("a PACKAGE stepped without an ANSWER", x.call(4, 257, 0), was(4));
    }

    static void failureAtFirst() {
        CarDesk x = new CarDesk();
        for (int call = 0; call < 24; call++) {
            Due.due("fails(" + call + ", -1)", x.fails(call, -1), -2);
            for (int failure = 0; failure <= 4; failure++) {
                Due.due("fails(" + call + ", " + failure + ")", x.fails(call, failure), Math.max(0, failure - 1));
            }
            Due.due("fails(" + call + ", 5)", x.fails(call, 5), -2);
            Due.due("fails(" + call + ", 0)", x.fails(call, 0), 4);
        }
        CarDesk y = Desks.house();
        y.fails(0, 0);
        Due.due("0 is none", y.call(0, 1, 0), 5);
    }

    static void asks() {
        long[] arguments = {0, 1, -1, Desks.BILLION, -Desks.BILLION};
        for (int kind = 0; kind < 6; kind++) {
            CarDesk x = Desks.house();
            x.answer(kind, -3);
            for (long a : arguments) {
                Due.due("ASKS " + kind + " with " + a, x.call(kind, NUMBERS[kind], a), was(kind) - 3);
            }
        }
        CarDesk x = new CarDesk();
        Desks.bus(x, 1);
        x.call(8, 129, -2);
        x.call(14, 129, 63);
        Due.due("the most", x.call(2, 129, 0), Long.MAX_VALUE);
        x.answer(2, 1);
        Due.due("the most and one", x.call(2, 129, 0), Long.MIN_VALUE);
        x.call(8, 129, 1);
        x.call(14, 129, 63);
        x.answer(2, -1);
        Due.due("the least less one", x.call(2, 129, 0), Long.MAX_VALUE);
    }

    static void sets() {
        for (int kind = 0; kind < 6; kind++) {
            CarDesk x = Desks.house();
            int number = NUMBERS[kind];
            x.answer(6 + kind, 50);
            Due.due("SETS " + kind + " to the least", x.call(6 + kind, number, -Desks.BILLION), was(kind));
            Due.due("SETS " + kind + " to the most", x.call(6 + kind, number, Desks.BILLION), -Desks.BILLION);
            Due.due("SETS " + kind + " to 0", x.call(6 + kind, number, 0), Desks.BILLION);
            Due.due("ASKS " + kind + " then", x.call(kind, number, 0), 0);
            if (kind != 0) {
                Due.due("SETS is no step of " + kind, x.call(12 + kind, number, 0), 1);
            }
        }
        CarDesk x = Desks.house();
        x.call(7, 65, 9);
        Due.due("the other WORLD stays", x.call(1, 66, 0), 5);
        Due.due("the SYSTEM stays", x.call(0, 1, 0), 5);
    }

    static void oneMoreTurn() {
        for (int kind = 0; kind < 6; kind++) {
            CarDesk x = stepped(kind, 49);
            Due.due("the 50th of " + kind, x.call(12 + kind, NUMBERS[kind], 0), 50);
            Due.due("the 51st of " + kind, x.call(12 + kind, NUMBERS[kind], 0), -4);
        }
        CarDesk x = Desks.house();
        x.call(13, 65, 1);
        x.call(13, 65, 1);
        Due.due("the other WORLD has its own", x.call(13, 66, 1), 1);
        Due.due("a refused step is none", x.call(13, 65, Desks.BILLION + 1), -2);
        Due.due("the third", x.call(13, 65, 1), 3);
    }

    /** A house whose first thing of a KIND was stepped so many times; a SYSTEM without WORLDS. */
    static CarDesk stepped(int kind, int times) {
        CarDesk x = new CarDesk();
        if (kind == 0) {
            Desks.system(x, 1);
        } else {
            x = Desks.house();
        }
        for (int i = 0; i < times; i++) {
            x.call(12 + kind, NUMBERS[kind], 1);
        }
        return x;
    }

    static void stepsSystem() {
        CarDesk x = new CarDesk();
        Desks.system(x, 1);
        long state = 218;
        long[] by = {6, 0, -1, Desks.BILLION, -Desks.BILLION, 218};
        for (long a : by) {
            x.call(12, 1, a);
            state ^= a;
            Due.due("xor " + a, x.call(0, 1, 0), state);
        }
    }

    static void stepsWorld() {
        CarDesk x = Desks.house();
        x.answer(13, -40);
        x.call(13, 65, 7);
        Due.due("it is 31 times 5, 7 and -40", x.call(1, 65, 0), 122);
        Due.due("the other one stays", x.call(1, 66, 0), 5);
        Due.due("so does its SYSTEM", x.call(0, 1, 0), 5);
        long state = 122;
        for (int i = 2; i <= 50; i++) {
            state = 31 * state + Desks.BILLION - 40;
            x.call(13, 65, Desks.BILLION);
        }
        Due.due("it wraps", x.call(1, 65, 0), state);
        x.answer(13, -Desks.BILLION);
        x.call(13, 66, -Desks.BILLION);
        Due.due("the least of both", x.call(1, 66, 0), 155 - 2 * Desks.BILLION);
    }

    static void stepsBus() {
        CarDesk x = new CarDesk();
        Desks.bus(x, 1);
        long state = -999999997L;
        x.call(8, 129, state);
        long[] by = {0, 1, 63, 62, 64, 65, 127, 128, -1, -63, -64, 31, 32, 33, 1000000000L, -1000000000L, 999999999L};
        for (long a : by) {
            x.call(14, 129, a);
            state = Long.rotateLeft(state, (int) a);
            Due.due("turned by " + a, x.call(2, 129, 0), state);
        }
    }

    static void stepsTester() {
        CarDesk x = Desks.house();
        x.call(7, 66, 40);
        x.call(15, 193, 2);
        Due.due("it, 40 and 2", x.call(3, 193, 0), 42);
        x.call(7, 66, -10);
        x.make(1);
        x.call(7, 67, 5000);
        x.call(15, 193, 0);
        Due.due("it and its WORLD, no newer one", x.call(3, 193, 0), 32);
        x.call(15, 193, -Desks.BILLION);
        Due.due("the least", x.call(3, 193, 0), 22 - Desks.BILLION);
        Due.due("the WORLD stays", x.call(1, 66, 0), -10);
    }

    static void stepsPackage() {
        CarDesk x = Desks.house();
        long state = was(4);
        long[][] rows = {{0, 5}, {7, 0}, {7, 3}, {-7, 3}, {1000000000L, 1000000000L},
            {-1000000000L, 999999999L}, {-1000000000L, -1000000000L}};
        for (long[] row : rows) {
            x.answer(16, row[1]);
            x.call(16, 257, row[0]);
            state += row[0] * row[1];
            Due.due("it and " + row[0] + " times " + row[1], x.call(4, 257, 0), state);
        }
    }

    static void stepsFleet() {
        CarDesk x = Desks.house();
        x.call(7, 65, 30);
        x.call(7, 66, -400);
        x.call(17, 321, 1);
        Due.due("all WORLDS and 1, not what it was", x.call(5, 321, 0), -369);
        x.make(1);
        x.call(17, 321, 0);
        Due.due("a newer WORLD, too", x.call(5, 321, 0), -365);
        x.drop(67);
        x.drop(65);
        x.call(17, 321, 3);
        Due.due("those that are there", x.call(5, 321, 0), -397);
        x.drop(193);
        x.drop(66);
        x.call(17, 321, 9);
        Due.due("a alone, without a WORLD", x.call(5, 321, 0), 9);
        CarDesk y = Desks.twentyOf(1);
        y.make(5);
        long sum = 0;
        for (int i = 1; i <= 20; i++) {
            y.call(7, 64 + i, 1L << i);
            sum += 1L << i;
        }
        y.call(17, 321, 0);
        Due.due("twenty WORLDS", y.call(5, 321, 0), sum);
    }

    static void turnsAnswered() {
        for (int kind = 0; kind < 6; kind++) {
            CarDesk x = stepped(kind, 0);
            x.answer(12 + kind, 77);
            for (int i = 1; i <= 50; i++) {
                Due.due("step " + i + " of KIND " + kind, x.call(12 + kind, NUMBERS[kind], 5), i);
            }
        }
    }

    static void comparesLess() {
        comparesAs(4, 5, 0);
        comparesAs(-1, 0, 0);
        comparesAs(-1, 1, 0);
        comparesAs(-Desks.BILLION, Desks.BILLION, 0);
        CarDesk x = leastAndMost();
        Due.due("the least with the most", x.call(20, 129, 130), 0);
    }

    static void comparesSame() {
        comparesAs(5, 5, 1);
        comparesAs(0, 0, 1);
        comparesAs(-Desks.BILLION, -Desks.BILLION, 1);
        for (int kind = 0; kind < 6; kind++) {
            CarDesk x = Desks.house();
            x.answer(18 + kind, 9);
            Due.due("with itself, " + kind, x.call(18 + kind, NUMBERS[kind], NUMBERS[kind]), 1);
        }
        CarDesk x = leastAndMost();
        Due.due("the least with itself", x.call(20, 129, 129), 1);
        Due.due("the most with itself", x.call(20, 130, 130), 1);
    }

    static void comparesGreater() {
        comparesAs(5, 4, 2);
        comparesAs(0, -1, 2);
        comparesAs(1, -1, 2);
        comparesAs(Desks.BILLION, -Desks.BILLION, 2);
        CarDesk x = leastAndMost();
        Due.due("the most with the least", x.call(20, 130, 129), 2);
    }

    private static void comparesAs(long first, long second, long want) {
        CarDesk x = new CarDesk();
        Desks.bus(x, 1);
        Desks.bus(x, 1);
        x.call(8, 129, first);
        x.call(8, 130, second);
        Due.due("COMPARES " + first + " with " + second, x.call(20, 129, 130), want);
        Due.due("the one stays", x.call(2, 129, 0), first);
        Due.due("the other stays", x.call(2, 130, 0), second);
        Due.due("it is no step", x.call(14, 129, 0), 1);
    }

    /** BUS 129 has the least STATE of 64 bits, 130 the most. */
    private static CarDesk leastAndMost() {
        CarDesk x = new CarDesk();
        Desks.bus(x, 1);
        Desks.bus(x, 1);
        x.call(8, 129, 1);
        x.call(14, 129, 63);
        x.call(8, 130, -2);
        x.call(14, 130, 63);
        Due.due("the least", x.call(2, 129, 0), Long.MIN_VALUE);
        Due.due("the most", x.call(2, 130, 0), Long.MAX_VALUE);
        return x;
    }

    static void failedChangesNothing() {
        for (int call = 6; call < 18; call++) {
            int kind = call % 6;
            int number = NUMBERS[kind];
            CarDesk x = stepped(kind, 3);
            CarDesk whole = stepped(kind, 3);
            x.fails(call, 1);
            for (int i = 0; i < 60; i++) {
                Due.due("call " + call + " FAILS", x.call(call, number, 9), -101);
            }
            Due.due("call " + call + ": the STATE", x.call(kind, number, 0), whole.call(kind, number, 0));
            x.fails(call, 0);
            Due.due("call " + call + ": TURNS", x.call(12 + kind, number, 0), 4);
        }
        refusedBeforeItFails();
    }

    private static void refusedBeforeItFails() {
        CarDesk x = Desks.house();
        for (int call = 0; call < 24; call++) {
            x.fails(call, 3);
        }
        Due.due("no such thing", x.call(0, 2, 0), -1);
        Due.due("COMPARES with no such thing", x.call(18, 1, 2), -1);
        Due.due("outside", x.call(0, 1, Desks.BILLION + 1), -2);
        Due.due("a SYSTEM of which a WORLD is there", x.call(12, 1, 0), -3);
        Due.due("FAILED", x.told(1), 0);
        Due.due("refused", x.told(0), 4);
        CarDesk y = stepped(2, 49);
        y.fails(14, 2);
        Due.due("the 50th FAILS", y.call(14, 129, 1), -102);
        y.fails(14, 0);
        Due.due("the 50th", y.call(14, 129, 1), 50);
        y.fails(14, 2);
        Due.due("the 51st is refused", y.call(14, 129, 1), -4);
        Due.due("one FAILED", y.told(1), 1);
    }

    static void failedAnswers() {
        for (int call = 0; call < 24; call++) {
            CarDesk x = stepped(call % 6, 0);
            int number = NUMBERS[call % 6];
            x.answer(call, 1000);
            for (int failure = 1; failure <= 4; failure++) {
                x.fails(call, failure);
                Due.due("call " + call + " with " + failure, x.call(call, number, number), -100 - failure);
            }
            x.fails(call, 0);
            Due.due("call " + call + " without", x.call(call, number, number) >= 0, true);
        }
    }

    static void failedIsTold() {
        for (int call = 0; call < 24; call++) {
            CarDesk x = stepped(call % 6, 0);
            int number = NUMBERS[call % 6];
            x.fails(call, 3);
            x.call(call, number, number);
            x.fails(call, 4);
            x.call(call, number, number);
            Due.due("how many FAILED", x.told(1), 2);
            Due.due("the FAILURE", x.told(2), 4);
            Due.due("the call", x.told(3), call);
            Due.due("the NUMBER", x.told(4), number);
            Due.due("none was REFUSED", x.told(0), 0);
        }
    }
}
