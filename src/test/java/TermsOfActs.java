/** Tests of the terms about ACTS that are noted, and REFUSALS. */
final class TermsOfActs {
    private static final long OUTSIDE = Desks.BILLION + 1;

    private TermsOfActs() {
    }

    static void noted() {
        CarDesk x = new CarDesk();
        for (int what = 0; what < 3; what++) {
            x.collect(what, 1);
            Due.due("collect(" + what + ")", x.told(7), what + 1);
        }
        x.answer(23, 1);
        Due.due("answer()", x.told(7), 4);
        x.fails(22, 1);
        x.fails(22, 0);
        Due.due("fails()", x.told(7), 6);
        for (int kind = 0; kind < 6; kind++) {
            x.make(kind);
            Due.due("make(" + kind + ")", x.told(7), 7 + kind);
        }
        for (int call = 13; call < 24; call++) {
            x.call(call, 64 * (call % 6) + 1, 64 * (call % 6) + 1);
            Due.due("call(" + call + ")", x.told(7), call);
        }
        refusedAreNot(x);
        toldAreNot(x);
    }

    private static void refusedAreNot(CarDesk x) {
        x.collect(0, 128);
        x.answer(24, 1);
        x.fails(0, 5);
        x.make(0);
        x.call(12, 1, 1);
        x.drop(1);
        Due.due("six were refused", x.told(0), 6);
        Due.due("none of them is noted", x.told(7), 23);
    }

    private static void toldAreNot(CarDesk x) {
        for (int what = -1; what <= 11; what++) {
            x.told(what);
            x.numbers(what);
        }
        x.again(0, 1, 0);
        Due.due("told(), numbers() and again() are none", x.told(7), 23);
    }

    static void failedAreNoted() {
        CarDesk x = Desks.house();
        x.fails(0, 2);
        int acts = x.told(7);
        for (int i = 1; i <= 3; i++) {
            x.call(0, 1, 0);
            Due.due("a FAILED call", x.told(7), acts + i);
        }
        x.call(0, 2, 0);
        Due.due("a refused one of a call with a FAILURE", x.told(7), acts + 3);
    }

    static void dropsAreNoted() {
        CarDesk x = Desks.house();
        int acts = x.told(7);
        x.drop(66);
        x.drop(0);
        Due.due("refused ones", x.told(7), acts);
        x.drop(193);
        Due.due("one", x.told(7), acts + 1);
        x.drop(193);
        Due.due("one that is gone", x.told(7), acts + 1);
        x.drop(66);
        Due.due("two", x.told(7), acts + 2);
    }

    static void refusalsChangeNothing() {
        Due.refused("collect -1", Desks::busyHouse, d -> d.collect(3, 0), -1);
        Due.refused("collect -2", Desks::busyHouse, d -> d.collect(0, 128), -2);
        Due.refused("collect -4", TermsOfActs::fullOfBits, d -> d.collect(1, 0), -4);
        Due.refused("answer -1", Desks::busyHouse, d -> d.answer(24, 0), -1);
        Due.refused("answer -2", Desks::busyHouse, d -> d.answer(0, OUTSIDE), -2);
        Due.refused("fails -1", Desks::busyHouse, d -> d.fails(24, 0), -1);
        Due.refused("fails -2", Desks::busyHouse, d -> d.fails(8, 5), -2);
        Due.refused("make -1", Desks::busyHouse, d -> d.make(6), -1);
        Due.refused("make -3", Desks::house, d -> d.make(0), -3);
        Due.refused("make -4", () -> Desks.twentyOf(1), d -> d.make(1), -4);
        Due.refused("call -1", Desks::busyHouse, d -> d.call(1, 1, 0), -1);
        Due.refused("call -2", Desks::busyHouse, d -> d.call(7, 65, OUTSIDE), -2);
        Due.refused("call -3", Desks::busyHouse, d -> d.call(12, 1, 0), -3);
        Due.refused("call -4", () -> TermsOfCalls.stepped(1, 50), d -> d.call(13, 65, 9), -4);
        Due.refused("drop", Desks::busyHouse, d -> d.drop(66) ? 1 : 0, 0);
    }

    private static CarDesk fullOfBits() {
        CarDesk x = new CarDesk();
        for (int i = 0; i < 200; i++) {
            x.collect(1, 1);
        }
        return x;
    }

    static void unknownFirst() {
        CarDesk x = Desks.house();
        Due.due("collect, -1 and -2", x.collect(3, -1), -1);
        Due.due("answer, -1 and -2", x.answer(24, OUTSIDE), -1);
        Due.due("fails, -1 and -2", x.fails(-1, 5), -1);
        Due.due("call, -1 and -2: no such call", x.call(24, 1, OUTSIDE), -1);
        Due.due("call, -1 and -2: no such thing", x.call(12, 2, OUTSIDE), -1);
        Due.due("call, -1 and -2: another KIND", x.call(12, 65, -OUTSIDE), -1);
        Due.due("COMPARES, -1 and -2", x.call(18, 1, OUTSIDE), -1);
        Due.due("COMPARES, -1 and -2, far out", x.call(18, 1, Long.MIN_VALUE), -1);
        Due.due("again, -1 and -2", x.again(18, 1, OUTSIDE), -1);
        Due.due("again, -1 and -2: no such call", x.again(24, 1, OUTSIDE), -1);
    }

    static void outsideBeforeStateAndRoom() {
        Due.due("collect, -2 and -4", fullOfBits().collect(1, 2), -2);
        Due.due("call, -2 and -3", Desks.house().call(12, 1, OUTSIDE), -2);
        Due.due("again, -2 and -3", Desks.house().again(12, 1, -OUTSIDE), -2);
        for (int kind = 0; kind < 6; kind++) {
            CarDesk x = TermsOfCalls.stepped(kind, 50);
            Due.due("call, -2 and -4", x.call(12 + kind, 64 * kind + 1, OUTSIDE), -2);
            Due.due("again, -2 and -4", x.again(12 + kind, 64 * kind + 1, OUTSIDE), -2);
        }
    }

    static void stateBeforeRoom() {
        CarDesk x = TermsOfCalls.stepped(0, 50);
        x.make(1);
        Due.due("call, -3 and -4", x.call(12, 1, 1), -3);
        Due.due("again, -3 and -4", x.again(12, 1, 1), -3);
        x.drop(65);
        Due.due("call, -4 alone", x.call(12, 1, 1), -4);
        for (int kind = 0; kind < 6; kind += 2) {
            CarDesk y = Desks.twentyOf(kind);
            Due.due("make, -4 alone", y.make(kind), -4);
            CarDesk z = new CarDesk();
            for (int i = 0; i < 20; i++) {
                z.collect(kind / 2, 1);
                z.make(kind);
            }
            Due.due("make, -3 and -4", z.make(kind), -3);
        }
        for (int kind = 1; kind < 6; kind += 2) {
            CarDesk y = allGone(kind);
            Due.due("make(" + kind + "), -3 and -4", y.make(kind), -3);
        }
    }

    /** Twenty of a KIND made, and neither a WORLD nor a SYSTEM there. */
    private static CarDesk allGone(int kind) {
        CarDesk x = Desks.twentyOf(kind);
        for (int i = 1; i <= 20; i++) {
            x.drop(64 * kind + i);
        }
        x.drop(65);
        x.drop(1);
        return x;
    }

    static void noRoom() {
        CarDesk x = fullOfBits();
        Due.due("a 201st bit", x.collect(1, 0), -4);
        Due.due("a 21st WORLD", Desks.twentyOf(1).make(1), -4);
        CarDesk y = TermsOfCalls.stepped(5, 50);
        Due.due("a 51st step", y.call(17, 321, 0), -4);
        Due.due("a 51st step again", y.again(17, 321, 0), -4);
        Due.due("it is REFUSED once", y.told(0), 1);
    }
}
