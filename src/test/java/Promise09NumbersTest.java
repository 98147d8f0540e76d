/** Promise 9: numbers. */
public final class Promise09NumbersTest {
    public static void main(String[] args) {
        for (int kind = 0; kind < 6; kind++) {
            upAndDown(kind);
        }
        noSuchKind();
        Due.end();
    }

    private static void upAndDown(int kind) {
        CarDesk x = Desks.busyHouse();
        int[] counts = {1, 2, 1, 1, 1, 1};
        for (int other = 0; other < 6; other++) {
            Due.due("numbers(" + other + ")", x.numbers(other), counts[other]);
        }
        int number = x.make(kind);
        for (int other = 0; other < 6; other++) {
            int due = counts[other] + (other == kind ? 1 : 0);
            Due.due("numbers(" + other + ") after make(" + kind + ")", x.numbers(other), due);
        }
        x.drop(number);
        Due.due("numbers(" + kind + ") after drop", x.numbers(kind), counts[kind]);
        x.drop(number);
        Due.due("numbers(" + kind + ") after a refused drop", x.numbers(kind), counts[kind]);
        Due.due("numbers of twenty", Desks.twentyOf(kind).numbers(kind), 20);
    }

    private static void noSuchKind() {
        CarDesk x = Desks.busyHouse();
        int refused = x.told(0);
        int acts = x.told(7);
        int[] unknown = {-1, 6, 7, 64, Integer.MIN_VALUE, Integer.MAX_VALUE};
        for (int kind : unknown) {
            Due.due("numbers(" + kind + ")", x.numbers(kind), 0);
        }
        x.numbers(0);
        Due.due("numbers is no refusal", x.told(0), refused);
        Due.due("numbers is no ACT", x.told(7), acts);
    }
}
