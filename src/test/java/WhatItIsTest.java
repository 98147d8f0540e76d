import java.util.Set;
import java.util.TreeSet;

/** What the document says first: what an object is, and for how many calls it is used. */
public final class WhatItIsTest {
    public static void main(String[] args) {
        Sentences section = new Sentences("What it is");
        section.holds("A desk over the parts of a car's house: systems, worlds, buses, testers, packages, fleets",
            WhatItIsTest::sixSortsOfParts);
        section.holds("get numbers that come never twice", WhatItIsTest::neverTwice);
        section.holds("are made of what was collected", WhatItIsTest::madeOfCollected);
        section.holds("answer calls", WhatItIsTest::answerCalls);
        section.holds("fail as they are told to", WhatItIsTest::failAsTold);
        section.holds("and are put back as they were;", WhatItIsTest::putBack);
        section.holds("and a second desk, by the same acts, that answers the same.", WhatItIsTest::secondDesk);
        section.holds("An object is used for at most 512 calls after it has been made", WhatItIsTest::lastCall);
        section.holds("what later calls answer is free.", WhatItIsTest::laterCallsEnd);
        section.end();
    }

    private static void sixSortsOfParts() {
        CarDesk x = Desks.house();
        for (int kind = 0; kind < 6; kind++) {
            Due.due("things of KIND " + kind, x.numbers(kind), kind == Desks.WORLD ? 2 : 1);
        }
        Due.due("a seventh sort", x.make(6), -1);
    }

    private static void neverTwice() {
        CarDesk x = new CarDesk();
        Set<Integer> numbers = new TreeSet<>();
        for (int i = 0; i < 20; i++) {
            int[] made = oneOfEach(x);
            for (int kind = 0; kind < 6; kind++) {
                Due.due("a new NUMBER of KIND " + kind, made[kind] > 0 && numbers.add(made[kind]), true);
            }
            int[] users = {Desks.TESTER, Desks.WORLD, Desks.SYSTEM, Desks.FLEET, Desks.BUS, Desks.PACKAGE};
            for (int kind : users) {
                Due.due("KIND " + kind + " goes", x.drop(made[kind]), true);
            }
        }
        Due.due("all NUMBERS", numbers.size(), 120);
    }

    private static int[] oneOfEach(CarDesk x) {
        for (int what = 0; what < 3; what++) {
            x.collect(what, 1);
        }
        int[] made = new int[6];
        for (int kind = 0; kind < 6; kind++) {
            made[kind] = x.make(kind);
        }
        return made;
    }

    private static void madeOfCollected() {
        CarDesk x = new CarDesk();
        Due.due("a SYSTEM of c, a, r", x.call(0, Desks.system(x, 99, 97, 114), 0), 306797);
        Due.due("a BUS of 1, 0, 1", x.call(2, Desks.bus(x, 1, 0, 1), 0), 2002);
        Due.due("a PACKAGE of 3, 4", x.call(4, Desks.pack(x, 3, 4), 0), 65536 * 12 + 8);
        Due.due("nothing is collected any more", x.told(8) + x.told(9) + x.told(10), 0);
        Due.due("a SYSTEM of nothing", x.make(0), -3);
    }

    private static void answerCalls() {
        long[] due = {5, 5, 2002, 0, 262148, 2, 5, 5, 2002, 0, 262148, 2, -3, 1, 1, 1, 1, 1, 1, 1, 1, 1, 1, 1};
        CarDesk x = Desks.house();
        for (int call = 0; call < 24; call++) {
            int number = 64 * (call % 6) + 1;
            Due.due("call(" + call + ", " + number + ", " + number + ")", x.call(call, number, number), due[call]);
        }
    }

    private static void failAsTold() {
        for (int call = 0; call < 24; call++) {
            for (int failure = 1; failure <= 4; failure++) {
                CarDesk x = houseFor(call);
                int number = 64 * (call % 6) + 1;
                long untold = houseFor(call).call(call, number, number);
                Due.due("told to FAIL", x.fails(call, failure), 0);
                Due.due("call " + call + " FAILS", x.call(call, number, number), -100 - failure);
                Due.due("told to FAIL no more", x.fails(call, 0), failure);
                Due.due("call " + call + " FAILS no more", x.call(call, number, number), untold);
            }
        }
    }

    /** A SYSTEM of which a WORLD is there is not stepped, so it stands alone where it is called. */
    private static CarDesk houseFor(int call) {
        CarDesk x = Desks.house();
        if (call % 6 == Desks.SYSTEM) {
            x.drop(193);
            x.drop(66);
            x.drop(65);
        }
        return x;
    }

    private static void putBack() {
        for (int call = 0; call < 24; call++) {
            CarDesk x = houseFor(call);
            CarDesk uncalled = houseFor(call);
            int number = 64 * (call % 6) + 1;
            x.fails(call, 1);
            x.call(call, number, number);
            Due.due("call " + call + " FAILED", x.told(1), 1);
            x.fails(call, 0);
            Due.due("after call " + call + " all is as it was", Due.later(x).equals(Due.later(uncalled)), true);
        }
    }

    private static void secondDesk() {
        CarDesk first = Desks.busyHouse();
        CarDesk second = Desks.busyHouse();
        for (int call = 0; call < 24; call++) {
            int number = 64 * (call % 6) + 1;
            long atFirst = first.again(call, number, number);
            Due.due("call " + call + " at the second desk", second.call(call, number, number), atFirst);
            Due.due("call " + call + " at this one", first.call(call, number, number), atFirst);
        }
    }

    private static void lastCall() {
        manyActs();
        manyFailed();
        manyRefused();
        manyMade();
    }

    private static void manyActs() {
        CarDesk x = new CarDesk();
        for (int i = 1; i <= 510; i++) {
            Due.due("answer()", x.answer(i % 24, i), 1);
        }
        Due.due("the 511th: again", x.again(0, 1, 0), -4);
        Due.due("the 512th: ACTS", x.told(7), 510);
    }

    private static void manyFailed() {
        CarDesk x = new CarDesk();
        Desks.bus(x, 1);
        x.fails(14, 1);
        for (int i = 4; i <= 511; i++) {
            Due.due("STEPS FAILS", x.call(14, 129, 1), -101);
        }
        Due.due("the 512th: FAILED", x.told(1), 508);
    }

    private static void manyRefused() {
        CarDesk x = new CarDesk();
        for (int i = 1; i <= 511; i++) {
            Due.due("drop()", x.drop(i), false);
        }
        Due.due("the 512th: REFUSED", x.told(0), 511);
    }

    private static void manyMade() {
        CarDesk x = new CarDesk();
        for (int i = 1; i <= 20; i++) {
            Desks.system(x, i);
            Desks.bus(x, 1);
            Desks.pack(x, i);
            x.make(1);
            x.make(3);
            x.make(5);
        }
        for (int i = 181; i <= 510; i++) {
            Due.due("SETS", x.call(11, 340, i), i == 181 ? 20 : i - 1);
        }
        Due.due("the 511th: the last FLEET", x.call(5, 340, 0), 510);
        Due.due("the 512th: the last WORLD", x.call(1, 84, 0), 217 + 20);
    }

    /** What they answer is not looked at, but LANGUAGE.md (7) lets no call throw in any state. */
    private static void laterCallsEnd() {
        CarDesk x = Desks.busyHouse();
        long[] some = {0, 1, 65, 129, 193, 257, 321, 384, -1, Desks.BILLION, Long.MAX_VALUE, Long.MIN_VALUE};
        for (int i = 0; i < 5000; i++) {
            long v = some[i % some.length];
            int any = i % 5 == 0 ? (int) v : i % 24;
            int number = i % 3 == 0 ? (int) v : 64 * (i % 6) + 1 + i % 21;
            x.collect(any % 4, v);
            x.answer(any, v);
            x.fails(any, i % 6);
            x.make(any % 7);
            x.call(any, number, v);
            x.told(any);
            x.drop(number);
            x.numbers(any);
            x.again(any, number, v);
        }
    }
}
