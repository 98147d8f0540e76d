/** What an object must answer up to its 512th call. */
public final class LastCallTest {
    public static void main(String[] args) {
        Sentences some = new Sentences("What it is");
        some.holds("An object is used for at most 512 calls after it has been made", LastCallTest::lastCall);
        some.endOfSome();
    }

    private static void lastCall() {
        manyActs();
        manyFailed();
        manyRefused();
        manyMade();
    }

    private static void manyActs() {
        CarDesk x = new CarDesk();
        for (int i = 1; i <= 510; i++) {
            Due.due("answer()", x.answer(i % 24, i), 1);
        }
        Due.due("the 511th: again", x.again(0, 1, 0), -4);
        Due.due("the 512th: ACTS", x.told(7), 510);
    }

    private static void manyFailed() {
        CarDesk x = new CarDesk();
        Desks.bus(x, 1);
        x.fails(14, 1);
        for (int i = 4; i <= 511; i++) {
            Due.due("STEPS FAILS", x.call(14, 129, 1), -101);
        }
        Due.due("the 512th: FAILED", x.told(1), 508);
    }

    private static void manyRefused() {
        CarDesk x = new CarDesk();
        for (int i = 1; i <= 511; i++) {
            Due.due("drop()", x.drop(i), false);
        }
        Due.due("the 512th: REFUSED", x.told(0), 511);
    }

    private static void manyMade() {
        CarDesk x = new CarDesk();
        for (int i = 1; i <= 20; i++) {
            Desks.system(x, i);
            Desks.bus(x, 1);
            Desks.pack(x, i);
            x.make(1);
            x.make(3);
            x.make(5);
        }
        for (int i = 181; i <= 510; i++) {
            Due.due("SETS", x.call(11, 340, i), i == 181 ? 20 : i - 1);
        }
        Due.due("the 511th: the last FLEET", x.call(5, 340, 0), 510);
        Due.due("the 512th: the last WORLD", x.call(1, 84, 0), 217 + 20);
    }
}
