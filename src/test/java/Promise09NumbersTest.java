/** Promise 9: numbers. */
public final class Promise09NumbersTest {
    public static void main(String[] args) {
        Sentences promise = new Sentences("Promise 9: numbers");
        promise.holds("How many things of a KIND are there", Promise09NumbersTest::howMany);
        promise.holds("0 if there is no such KIND.", Promise09NumbersTest::noSuchKind);
        promise.end();
    }

    private static void howMany() {
        for (int kind = 0; kind < 6; kind++) {
            Due.due("none at first", new CarDesk().numbers(kind), 0);
            upAndDown(kind);
            downFromTwenty(kind);
        }
        CarDesk x = Desks.busyHouse();
        int refused = x.told(0);
        int acts = x.told(7);
        x.numbers(0);
        Due.due("numbers is no refusal", x.told(0), refused);
        Due.due("numbers is no ACT", x.told(7), acts);
    }

    private static void upAndDown(int kind) {
        CarDesk x = Desks.busyHouse();
        int[] counts = {1, 2, 1, 1, 1, 1};
        for (int other = 0; other < 6; other++) {
            Due.due("numbers(" + other + ")", x.numbers(other), counts[other]);
        }
        int number = x.make(kind);
        for (int other = 0; other < 6; other++) {
            int due = counts[other] + (other == kind ? 1 : 0);
            Due.due("numbers(" + other + ") after make(" + kind + ")", x.numbers(other), due);
        }
        x.drop(number);
        Due.due("numbers(" + kind + ") after drop", x.numbers(kind), counts[kind]);
        x.drop(number);
        Due.due("numbers(" + kind + ") after a refused drop", x.numbers(kind), counts[kind]);
        x.make(kind);
        x.make(kind + 6);
        x.make(kind - 6);
        boolean needsMore = kind % 2 == 0;
        Due.due("numbers(" + kind + ") after the next make", x.numbers(kind), counts[kind] + (needsMore ? 0 : 1));
    }

    private static void downFromTwenty(int kind) {
        CarDesk x = Desks.twentyOf(kind);
        Due.due("numbers of twenty", x.numbers(kind), 20);
        x.make(kind);
        Due.due("numbers after a 21st", x.numbers(kind), 20);
        for (int left = 19; left >= 0; left--) {
            x.drop(64 * kind + 20 - left);
            Due.due("numbers then", x.numbers(kind), left);
        }
    }

    private static void noSuchKind() {
        CarDesk x = Desks.busyHouse();
        int refused = x.told(0);
        int acts = x.told(7);
        int[] unknown = {-1, -6, 6, 7, 64, Integer.MIN_VALUE, Integer.MAX_VALUE};
        for (int kind : unknown) {
            Due.due("numbers(" + kind + ")", x.numbers(kind), 0);
        }
        Due.due("it is no refusal", x.told(0), refused);
        Due.due("it is no ACT", x.told(7), acts);
    }
}
