/** Promise 8: drop. */
public final class Promise08DropTest {
    public static void main(String[] args) {
        inOrder();
        ofThisOneAlone();
        whatIsNotThere();
        Due.end();
    }

    private static void inOrder() {
        Due.refused("a SYSTEM of which a WORLD is there", Desks::busyHouse, d -> d.drop(1) ? 1 : 0, 0);
        Due.refused("a WORLD of which a TESTER is there", Desks::busyHouse, d -> d.drop(66) ? 1 : 0, 0);
        CarDesk x = Desks.house();
        int acts = x.told(7);
        int[] free = {65, 129, 193, 257, 321, 66, 1};
        for (int i = 0; i < free.length; i++) {
            Due.due("drop(" + free[i] + ")", x.drop(free[i]), true);
            Due.due("ACTS", x.told(7), acts + i + 1);
            Due.due("drop(" + free[i] + ") again", x.drop(free[i]), false);
            Due.due("refused", x.told(0), i + 1);
        }
        for (int kind = 0; kind < 6; kind++) {
            Due.due("numbers(" + kind + ")", x.numbers(kind), 0);
        }
        Due.due("things made in all stay told", x.told(6), 7);
    }

    private static void ofThisOneAlone() {
        CarDesk x = Desks.house();
        Desks.system(x, 1);
        Due.due("a SYSTEM without a WORLD", x.drop(2), true);
        Desks.system(x, 1);
        x.make(1);
        Due.due("a SYSTEM with one", x.drop(3), false);
        x.make(3);
        Due.due("a WORLD with a TESTER", x.drop(67), false);
        Due.due("its TESTER", x.drop(194), true);
        Due.due("the WORLD then", x.drop(67), true);
        Due.due("the SYSTEM then", x.drop(3), true);
        Due.due("the first SYSTEM", x.drop(1), false);
        Due.due("a FLEET holds no WORLD", x.drop(65), true);
        Due.due("two TESTERS of a WORLD", x.make(3), 195);
        x.drop(193);
        Due.due("one is there", x.drop(66), false);
        x.drop(195);
        Due.due("none is there", x.drop(66), true);
    }

    private static void whatIsNotThere() {
        int[] unknown = {0, 2, 21, 63, 64, 67, 85, 128, 130, 192, 194, 256, 258, 320, 322, 383, 384, 385,
            -1, -63, -64, -65, Integer.MIN_VALUE, Integer.MAX_VALUE};
        for (int number : unknown) {
            Due.refused("drop(" + number + ")", Desks::busyHouse, d -> d.drop(number) ? 1 : 0, 0);
        }
    }
}
