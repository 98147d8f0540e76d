/** Promise 5: make. How a thing IS MADE is tested with the terms. */
public final class Promise05MakeTest {
    public static void main(String[] args) {
        Sentences promise = new Sentences("Promise 5: make");
        promise.holds("A thing of a KIND: its NUMBER.", Promise05MakeTest::itsNumber);
        promise.holds("-1 there is no such KIND", Promise05MakeTest::noSuchKind);
        promise.holds("-3 what it is made of is not there", Promise05MakeTest::notThere);
        promise.holds("-4 there were 20.", Promise05MakeTest::twenty);
        promise.end();
    }

    private static void itsNumber() {
        for (int kind = 0; kind < 6; kind++) {
            CarDesk x = Desks.busyHouse();
            int acts = x.told(7);
            int made = x.told(6);
            int next = kind == 1 ? 67 : 64 * kind + 2;
            Due.due("make(" + kind + ")", x.make(kind), next);
            Due.due("things made", x.told(6), made + 1);
            Due.due("ACTS", x.told(7), acts + 1);
            Due.due("it is there", x.call(kind, next, 0) != -1, true);
            Due.due("drop(" + next + ")", x.drop(next), true);
            Desks.collect(x, kind == 0 ? 0 : kind == 2 ? 1 : 2, 1);
            Due.due("make(" + kind + ") after that", x.make(kind), next + 1);
            Due.due("the dropped one stays gone", x.drop(next), false);
        }
    }

    private static void noSuchKind() {
        int[] unknown = {-1, 6, 7, 64, Integer.MIN_VALUE, Integer.MAX_VALUE};
        for (int kind : unknown) {
            Due.refused("make(" + kind + ")", Desks::busyHouse, d -> d.make(kind), -1);
            Due.due("make(" + kind + ") first", new CarDesk().make(kind), -1);
        }
    }

    private static void notThere() {
        for (int made = 0; made < 6; made++) {
            int kind = made;
            Due.refused("make(" + kind + ") of nothing", CarDesk::new, d -> d.make(kind), -3);
        }
        for (int made = 0; made < 6; made += 2) {
            int kind = made;
            Due.refused("make(" + kind + ") in a house", Desks::house, d -> d.make(kind), -3);
            Due.refused("make(" + kind + ") of other sorts", () -> withoutSort(kind / 2), d -> d.make(kind), -3);
        }
        Due.refused("a TESTER without a WORLD", Promise05MakeTest::systemAlone, d -> d.make(3), -3);
        Due.refused("a FLEET without a WORLD", Promise05MakeTest::systemAlone, d -> d.make(5), -3);
        Due.refused("a WORLD, the SYSTEM is gone", Promise05MakeTest::allGone, d -> d.make(1), -3);
        Due.refused("a TESTER, the WORLD is gone", Promise05MakeTest::allGone, d -> d.make(3), -3);
        Due.refused("a FLEET, the WORLD is gone", Promise05MakeTest::allGone, d -> d.make(5), -3);
        Due.refused("a SYSTEM, letters are used up", Promise05MakeTest::systemAlone, d -> d.make(0), -3);
    }

    /** All three sorts but one, and things of every KIND. */
    private static CarDesk withoutSort(int what) {
        CarDesk x = Desks.house();
        x.collect((what + 1) % 3, 1);
        x.collect((what + 2) % 3, 1);
        return x;
    }

    private static CarDesk systemAlone() {
        CarDesk x = new CarDesk();
        Desks.system(x, 1);
        return x;
    }

    private static CarDesk allGone() {
        CarDesk x = systemAlone();
        x.make(1);
        x.drop(65);
        x.drop(1);
        return x;
    }

    private static void twenty() {
        for (int made = 0; made < 6; made++) {
            int kind = made;
            CarDesk x = Desks.twentyOf(kind);
            Due.due("numbers(" + kind + ")", x.numbers(kind), 20);
            Due.refused("the 21st of " + kind, () -> Desks.twentyOf(kind), d -> d.make(kind), -4);
            Due.due("the last can go", x.drop(64 * kind + 20), true);
            Due.due("the 21st of " + kind + ", one is gone", x.make(kind), -4);
            Due.due("numbers(" + kind + ") then", x.numbers(kind), 19);
        }
        refusedLeavesWhatIsCollected();
        missingComesFirst();
    }

    private static void refusedLeavesWhatIsCollected() {
        for (int what = 0; what < 3; what++) {
            CarDesk x = Desks.twentyOf(2 * what);
            Due.due("the 21st", x.make(2 * what), -4);
            Due.due("a refused make leaves what it needs", x.told(8 + what), 1);
            Due.due("it goes on", x.collect(what, 1), 2);
        }
    }

    private static void missingComesFirst() {
        CarDesk x = new CarDesk();
        for (int i = 0; i < 20; i++) {
            Due.due("a BUS", Desks.bus(x, 1), 129 + i);
        }
        Due.due("the 21st BUS without bits", x.make(2), -3);
        CarDesk y = Desks.twentyOf(1);
        for (int number = 65; number <= 84; number++) {
            y.drop(number);
        }
        Due.due("the 21st WORLD", y.make(1), -4);
        y.drop(1);
        Due.due("the 21st WORLD without a SYSTEM", y.make(1), -3);
    }
}
