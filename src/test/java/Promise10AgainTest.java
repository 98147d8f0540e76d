import java.util.ArrayList;
import java.util.List;
import java.util.Random;
import java.util.function.Consumer;

/** Promise 10: again, against a second desk that really does the noted ACTS. */
public final class Promise10AgainTest {
    private static final Random RANDOM = new Random(20261115);

    /** The ACTS of the desk at hand that were not refused. */
    private static List<Consumer<CarDesk>> acts = new ArrayList<>();

    public static void main(String[] args) {
        plainOnes();
        nothingChanges();
        moreThan128();
        for (int run = 0; run < 400; run++) {
            randomRun(run);
        }
        Due.end();
    }

    private static void plainOnes() {
        CarDesk x = Desks.house();
        x.answer(0, 7);
        Due.due("ASKS", x.again(0, 1, 0), 12);
        Due.due("SETS", x.again(7, 65, 9), 5);
        Due.due("STEPS", x.again(13, 65, 9), 1);
        Due.due("STEPS again", x.again(13, 65, 9), 1);
        Due.due("COMPARES", x.again(19, 65, 66), 1);
        Due.due("no such call", x.again(24, 65, 66), -1);
        Due.due("no such thing", x.again(0, 2, 0), -1);
        Due.due("no such other thing", x.again(19, 65, (1L << 32) + 66), -1);
        Due.due("outside", x.again(0, 1, Desks.BILLION + 1), -2);
        Due.due("not in this state", x.again(12, 1, 0), -3);
        x.fails(0, 4);
        Due.due("a FAILURE", x.again(0, 1, 0), -104);
        for (int i = 0; i < 50; i++) {
            x.call(14, 129, 1);
        }
        Due.due("no room", x.again(14, 129, 1), -4);
    }

    private static void nothingChanges() {
        CarDesk x = Desks.busyHouse();
        int refused = x.told(0);
        List<Long> seen = Due.seen(x);
        for (int call = -1; call <= 24; call++) {
            for (long a : new long[] {1, 65, 129, 2 * Desks.BILLION}) {
                x.again(call, 64 * Math.floorMod(call, 6) + 1, a);
            }
        }
        Due.due("no count", x.told(0), refused);
        Due.due("nothing changes", Due.seen(x).equals(seen), true);
    }

    private static void moreThan128() {
        CarDesk x = Desks.house();
        while (x.told(7) < 128) {
            x.answer(0, x.told(7));
        }
        Due.due("128 ACTS", x.again(0, 1, 0), 132);
        x.make(9);
        Due.due("a refused one is not noted", x.again(0, 1, 0), 132);
        x.fails(0, 1);
        Due.due("129 ACTS", x.again(0, 1, 0), -4);
        Due.due("129 ACTS, no such call", x.again(24, 1, 0), -4);
        Due.due("129 ACTS, outside", x.again(0, 1, 2 * Desks.BILLION), -4);
        Due.due("the call itself goes on", x.call(0, 1, 0), -101);
        Due.due("-4 is told by no count", x.told(0), 1);
        CarDesk y = new CarDesk();
        Desks.system(y, 1);
        y.fails(0, 2);
        for (int i = 3; i < 128; i++) {
            y.call(0, 1, 0);
        }
        Due.due("FAILED ones are noted", y.again(6, 1, 0), 218);
        y.call(0, 1, 0);
        Due.due("FAILED ones are noted, 129", y.again(6, 1, 0), -4);
    }

    private static void randomRun(int run) {
        CarDesk x = new CarDesk();
        acts = new ArrayList<>();
        for (int i = 0; i < 140; i++) {
            int noted = x.told(7);
            int refused = x.told(0);
            Consumer<CarDesk> act = randomAct();
            act.accept(x);
            boolean wasRefused = x.told(0) == refused + 1;
            Due.due("run " + run + ": an act is refused or noted", x.told(7) - noted, wasRefused ? 0 : 1);
            if (!wasRefused) {
                acts.add(act);
            }
            if (i % 10 == 0) {
                compareWithSecondDesk(run, x);
            }
        }
    }

    private static void compareWithSecondDesk(int run, CarDesk x) {
        for (int i = 0; i < 5; i++) {
            CarDesk second = new CarDesk();
            for (Consumer<CarDesk> act : acts) {
                act.accept(second);
            }
            int call = call();
            int number = number(call);
            long a = argument(call);
            long want = acts.size() > 128 ? -4 : second.call(call, number, a);
            Due.due("run " + run + ": again(" + call + ", " + number + ", " + a + ")", x.again(call, number, a), want);
        }
    }

    private static Consumer<CarDesk> randomAct() {
        int call = call();
        int number = number(call);
        long a = argument(call);
        switch (RANDOM.nextInt(10)) {
            case 0:
            case 1: {
                int what = RANDOM.nextInt(30) == 0 ? 3 : RANDOM.nextInt(3);
                long v = RANDOM.nextInt(what == 1 ? 2 : 130);
                return d -> d.collect(what, v);
            }
            case 2:
                return d -> d.answer(call, a);
            case 3: {
                int failure = Math.max(0, RANDOM.nextInt(12) - 6);
                return d -> d.fails(call, failure);
            }
            case 4:
            case 5: {
                int kind = RANDOM.nextInt(30) == 0 ? -1 : RANDOM.nextInt(6);
                return d -> d.make(kind);
            }
            case 6:
                return d -> d.drop(number);
            default:
                return d -> d.call(call, number, a);
        }
    }

    private static int call() {
        return RANDOM.nextInt(40) == 0 ? 24 : RANDOM.nextInt(24);
    }

    private static int number(int call) {
        int kind = RANDOM.nextInt(20) == 0 ? RANDOM.nextInt(6) : call % 6;
        return 64 * kind + 1 + RANDOM.nextInt(4);
    }

    private static long argument(int call) {
        if (call >= 18 && RANDOM.nextInt(10) != 0) {
            return number(call);
        }
        long[] some = {0, 1, -1, 63, 64, Desks.BILLION, -Desks.BILLION, Desks.BILLION + 1, Long.MIN_VALUE};
        return RANDOM.nextInt(3) == 0 ? some[RANDOM.nextInt(some.length)] : RANDOM.nextInt(2000) - 1000;
    }
}
