import java.util.ArrayList;
import java.util.List;
import java.util.Random;
import java.util.function.Consumer;

/** Promise 10: again, against a second desk that really does the noted ACTS. */
public final class Promise10AgainTest {
    private static final Random RANDOM = new Random(20261115);

    /** The ACTS of the desk at hand that were not refused. */
    private static List<Consumer<CarDesk>> acts = new ArrayList<>();

    public static void main(String[] args) {
        Sentences promise = new Sentences("Promise 10: again");
        promise.holds("What this call answers at a second desk that did all ACTS that are noted, in order",
            Promise10AgainTest::atASecondDesk);
        promise.holds("-4 when more than 128 are.", Promise10AgainTest::moreThan128);
        promise.holds("Nothing changes here, also no count.", Promise10AgainTest::nothingChanges);
        promise.end();
    }

    private static void atASecondDesk() {
        plainOnes();
        inOrder();
        afterRefusedAndFailed();
        for (int run = 0; run < 400; run++) {
            randomRun(run);
        }
    }

    private static void plainOnes() {
        CarDesk x = Desks.house();
        x.answer(0, 7);
        Due.due("ASKS", x.again(0, 1, 0), 12);
        Due.due("SETS", x.again(7, 65, 9), 5);
        Due.due("STEPS", x.again(13, 65, 9), 1);
        Due.due("STEPS again", x.again(13, 65, 9), 1);
        Due.due("COMPARES", x.again(19, 65, 66), 1);
        Due.due("no such call", x.again(24, 65, 66), -1);
        Due.due("no such thing", x.again(0, 2, 0), -1);
        Due.due("no such other thing", x.again(19, 65, (1L << 32) + 66), -1);
        Due.due("outside", x.again(0, 1, Desks.BILLION + 1), -2);
        Due.due("not in this state", x.again(12, 1, 0), -3);
        x.fails(0, 4);
        Due.due("a FAILURE", x.again(0, 1, 0), -104);
        for (int i = 0; i < 50; i++) {
            x.call(14, 129, 1);
        }
        Due.due("no room", x.again(14, 129, 1), -4);
    }

    private static void inOrder() {
        CarDesk x = new CarDesk();
        Due.due("no ACTS, no thing", x.again(0, 1, 0), -1);
        Desks.system(x, 1, 2);
        Due.due("letters in order", x.again(0, 1, 0), 31 * 218 + 2);
        x.call(6, 1, 7);
        x.call(6, 1, 8);
        Due.due("the later one stands", x.again(6, 1, 0), 8);
        x.make(1);
        x.call(6, 1, 9);
        Due.due("a WORLD of the STATE then", x.again(1, 65, 0), 8);
        x.drop(65);
        Due.due("one that is gone", x.again(1, 65, 0), -1);
    }

    private static void afterRefusedAndFailed() {
        CarDesk x = new CarDesk();
        Desks.system(x, 1);
        x.fails(12, 2);
        for (int i = 0; i < 60; i++) {
            x.call(12, 1, 5);
        }
        Due.due("it FAILS there, too", x.again(12, 1, 5), -102);
        x.fails(12, 0);
        Due.due("TURNS are as they were", x.again(12, 1, 5), 1);
        Due.due("the STATE is as it was", x.again(6, 1, 0), 218);
        x.make(1);
        x.call(12, 1, 5);
        Due.due("a refused one is not done there", x.again(0, 1, 0), 218);
    }

    private static void nothingChanges() {
        for (int acts = 0; acts <= 129; acts += 129) {
            CarDesk x = busyWith(acts);
            CarDesk unasked = busyWith(acts);
            for (int call = -1; call <= 24; call++) {
                for (long a : new long[] {1, 65, 129, 2 * Desks.BILLION}) {
                    x.again(call, 64 * Math.floorMod(call, 6) + 1, a);
                }
            }
            Due.due("no count", x.told(0), unasked.told(0));
            Due.due("nothing changes", Due.seen(x).equals(Due.seen(unasked)), true);
            Due.due("nothing changes that shows later", Due.later(x).equals(Due.later(unasked)), true);
        }
    }

    /** A busy house and as many ACTS more as it takes to have that many. */
    private static CarDesk busyWith(int acts) {
        CarDesk x = Desks.busyHouse();
        for (int noted = x.told(7); noted < acts; noted++) {
            x.answer(0, noted);
        }
        return x;
    }

    private static void moreThan128() {
        CarDesk x = Desks.house();
        for (int noted = x.told(7); noted < 128; noted++) {
            x.answer(0, noted);
        }
        Due.due("128 ACTS", x.again(0, 1, 0), 132);
        x.make(9);
        Due.due("a refused one is not noted", x.again(0, 1, 0), 132);
        x.fails(0, 1);
        Due.due("129 ACTS", x.again(0, 1, 0), -4);
        Due.due("129 ACTS, no such call", x.again(24, 1, 0), -4);
        Due.due("129 ACTS, outside", x.again(0, 1, 2 * Desks.BILLION), -4);
        Due.due("the call itself goes on", x.call(0, 1, 0), -101);
        Due.due("-4 is told by no count", x.told(0), 1);
        CarDesk y = new CarDesk();
        Desks.system(y, 1);
        y.fails(0, 2);
        for (int i = 3; i < 128; i++) {
            y.call(0, 1, 0);
        }
        Due.due("FAILED ones are noted", y.again(6, 1, 0), 218);
        y.call(0, 1, 0);
        Due.due("FAILED ones are noted, 129", y.again(6, 1, 0), -4);
    }

    /** An object is used for 512 calls at most, so told() is asked once for each act. */
    private static void randomRun(int run) {
        CarDesk x = new CarDesk();
        acts = new ArrayList<>();
        int refused = 0;
        for (int i = 0; i < 140; i++) {
            Consumer<CarDesk> act = randomAct();
            act.accept(x);
            int refusedThen = x.told(0);
            if (refusedThen == refused) {
                acts.add(act);
            }
            refused = refusedThen;
            if (i % 10 == 0) {
                compareWithSecondDesk(run, x);
            }
        }
        Due.due("run " + run + ": an act is refused or noted", x.told(7), acts.size());
    }

    private static void compareWithSecondDesk(int run, CarDesk x) {
        for (int i = 0; i < 5; i++) {
            CarDesk second = new CarDesk();
            for (Consumer<CarDesk> act : acts) {
                act.accept(second);
            }
            int call = call();
            int number = number(call);
            long a = argument(call);
            long want = acts.size() > 128 ? -4 : second.call(call, number, a);
            Due.due("run " + run + ": again(" + call + ", " + number + ", " + a + ")", x.again(call, number, a), want);
        }
    }

    private static Consumer<CarDesk> randomAct() {
        int call = call();
        int number = number(call);
        long a = argument(call);
        switch (RANDOM.nextInt(10)) {
            case 0:
            case 1: {
                int what = RANDOM.nextInt(30) == 0 ? 3 : RANDOM.nextInt(3);
                long v = RANDOM.nextInt(what == 1 ? 2 : 130);
                return d -> d.collect(what, v);
            }
            case 2:
                return d -> d.answer(call, a);
            case 3: {
                int failure = Math.max(0, RANDOM.nextInt(12) - 6);
                return d -> d.fails(call, failure);
            }
            case 4:
            case 5: {
                int kind = RANDOM.nextInt(30) == 0 ? -1 : RANDOM.nextInt(6);
                return d -> d.make(kind);
            }
            case 6:
                return d -> d.drop(number);
            default:
                return d -> d.call(call, number, a);
        }
    }

    private static int call() {
        return RANDOM.nextInt(40) == 0 ? 24 : RANDOM.nextInt(24);
    }

    private static int number(int call) {
        int kind = RANDOM.nextInt(20) == 0 ? RANDOM.nextInt(6) : call % 6;
        return 64 * kind + 1 + RANDOM.nextInt(4);
    }

    private static long argument(int call) {
        if (call >= 18 && RANDOM.nextInt(10) != 0) {
            return number(call);
        }
        long[] some = {0, 1, -1, 63, 64, Desks.BILLION, -Desks.BILLION, Desks.BILLION + 1, Long.MIN_VALUE};
        return RANDOM.nextInt(3) == 0 ? some[RANDOM.nextInt(some.length)] : RANDOM.nextInt(2000) - 1000;
    }
}
