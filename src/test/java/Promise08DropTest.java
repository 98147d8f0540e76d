/** Promise 8: drop. */
public final class Promise08DropTest {
    public static void main(String[] args) {
        Sentences promise = new Sentences("Promise 8: drop");
        promise.holds("A thing is gone: whether it was there", Promise08DropTest::isGone);
        promise.holds("and could go: no SYSTEM of which a WORLD", Promise08DropTest::systemOfWorld);
        promise.holds("and no WORLD of which a TESTER is there.", Promise08DropTest::worldOfTester);
        promise.holds("Otherwise that is REFUSED.", Promise08DropTest::otherwiseRefused);
        promise.end();
    }

    private static void isGone() {
        CarDesk x = Desks.house();
        int acts = x.told(7);
        int[] free = {65, 129, 193, 257, 321, 66, 1};
        for (int i = 0; i < free.length; i++) {
            int kind = free[i] / 64;
            int there = x.numbers(kind);
            Due.due("drop(" + free[i] + ")", x.drop(free[i]), true);
            Due.due("ACTS", x.told(7), acts + i + 1);
            Due.due("one less", x.numbers(kind), there - 1);
            Due.due("it is gone", x.call(kind, free[i], 0), -1);
            Due.due("drop(" + free[i] + ") again", x.drop(free[i]), false);
        }
        Due.due("things made in all stay told", x.told(6), 7);
        for (int kind = 0; kind < 6; kind++) {
            firstAndTwentieth(kind);
        }
    }

    private static void firstAndTwentieth(int kind) {
        CarDesk x = Desks.twentyOf(kind);
        Due.due("the 20th of " + kind, x.drop(64 * kind + 20), true);
        Due.due("the first of " + kind, x.drop(64 * kind + 1), true);
        Due.due("numbers(" + kind + ")", x.numbers(kind), 18);
        Due.due("the second stays", x.call(18 + kind, 64 * kind + 2, 64 * kind + 2), 1);
        Due.due("the 19th stays", x.call(18 + kind, 64 * kind + 19, 64 * kind + 19), 1);
    }

    private static void systemOfWorld() {
        CarDesk x = Desks.house();
        Due.due("a SYSTEM with two WORLDS", x.drop(1), false);
        Due.due("it is there", x.call(0, 1, 0), 5);
        x.drop(65);
        Due.due("a SYSTEM with one WORLD", x.drop(1), false);
        Desks.system(x, 1);
        Due.due("a SYSTEM without a WORLD, another has one", x.drop(2), true);
        x.drop(193);
        x.drop(66);
        Due.due("a SYSTEM whose WORLDS are gone", x.drop(1), true);
        Desks.system(x, 1);
        Desks.system(x, 1);
        x.make(1);
        Due.due("the newer SYSTEM has the WORLD", x.drop(4), false);
        Due.due("the older one has none", x.drop(3), true);
    }

    private static void worldOfTester() {
        CarDesk x = Desks.house();
        Due.due("a WORLD with a TESTER", x.drop(66), false);
        Due.due("it is there", x.call(1, 66, 0), 5);
        Due.due("a second TESTER of it", x.make(3), 194);
        x.drop(193);
        Due.due("one TESTER is there", x.drop(66), false);
        Due.due("a FLEET holds no WORLD", x.drop(65), true);
        x.drop(194);
        Due.due("no TESTER is there", x.drop(66), true);
        CarDesk y = Desks.house();
        y.make(1);
        Due.due("a newer WORLD has no TESTER", y.drop(67), true);
        Due.due("the TESTER is of the older one", y.drop(66), false);
        Due.due("a TESTER can go", y.drop(193), true);
    }

    private static void otherwiseRefused() {
        Due.refused("a SYSTEM of which a WORLD is there", Desks::busyHouse, d -> d.drop(1) ? 1 : 0, 0);
        Due.refused("a WORLD of which a TESTER is there", Desks::busyHouse, d -> d.drop(66) ? 1 : 0, 0);
        Due.refused("one that is gone", Promise08DropTest::without65, d -> d.drop(65) ? 1 : 0, 0);
        int[] unknown = {0, 2, 20, 21, 63, 64, 67, 84, 85, 127, 128, 130, 192, 194, 256, 258, 320, 322, 383, 384,
            385, -1, -63, -64, -65, Integer.MIN_VALUE, Integer.MAX_VALUE};
        for (int number : unknown) {
            Due.refused("drop(" + number + ")", Desks::busyHouse, d -> d.drop(number) ? 1 : 0, 0);
        }
    }

    private static CarDesk without65() {
        CarDesk x = Desks.busyHouse();
        x.drop(65);
        return x;
    }
}
