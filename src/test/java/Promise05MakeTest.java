import java.util.Random;
import java.util.zip.Adler32;

/** Promise 5: make, and how a thing IS MADE. */
public final class Promise05MakeTest {
    public static void main(String[] args) {
        systems();
        buses();
        packages();
        worlds();
        testers();
        fleets();
        numbersComeNeverTwice();
        missing();
        twenty();
        Due.end();
    }

    private static void systems() {
        CarDesk x = new CarDesk();
        Due.due("the first SYSTEM", Desks.system(x, 0), 1);
        Due.due("of the letter 0", Desks.state(x, 1), 217);
        Due.due("the second SYSTEM", Desks.system(x, 127, 1), 2);
        Due.due("of 127 and 1", Desks.state(x, 2), 31 * (217 + 127) + 1);
        CarDesk y = new CarDesk();
        long state = 7;
        for (int i = 0; i < 100; i++) {
            y.collect(0, i);
            state = 31 * state + i;
        }
        y.make(0);
        Due.due("of a hundred letters, wrapping", Desks.state(y, 1), state);
        Due.due("letters are gone", y.told(8), 0);
        Due.due("and there is none to make another", y.make(0), -3);
    }

    private static void buses() {
        busOf(0, 0);
        busOf(1000, 1);
        busOf(0, 0, 0, 0);
        busOf(3000, 1, 1, 1);
        busOf(1001, 0, 1);
        busOf(1001, 1, 0);
        busOf(2003, 1, 0, 1, 0);
        CarDesk x = new CarDesk();
        Desks.bus(x, 1);
        Due.due("the second BUS", Desks.bus(x, 0), 130);
        Due.due("knows nothing of the first one's bits", Desks.state(x, 130), 0);
        Due.due("bits are gone", x.told(9), 0);
        Due.due("and there is none to make another", x.make(2), -3);
    }

    private static void busOf(long state, int... bits) {
        CarDesk x = new CarDesk();
        Due.due("a BUS", Desks.bus(x, bits), 129);
        Due.due("a BUS of " + bits.length + " bits", Desks.state(x, 129), state);
    }

    private static void packages() {
        packageOf(0);
        packageOf(255);
        packageOf(1, 200, 255, 7);
        Random random = new Random(1);
        int[] many = random.ints(120, 0, 256).toArray();
        packageOf(many);
        int[] most = new int[120];
        java.util.Arrays.fill(most, 255);
        packageOf(most);
        wholePackage();
    }

    private static void packageOf(int... bytes) {
        CarDesk x = new CarDesk();
        Due.due("a PACKAGE", Desks.pack(x, bytes), 257);
        Due.due("a PACKAGE of " + bytes.length + " bytes", Desks.state(x, 257), adler(bytes));
        Due.due("bytes are gone", x.told(10), 0);
        Due.due("and there is none to make another", x.make(4), -3);
    }

    private static void wholePackage() {
        int[] bytes = new int[200];
        java.util.Arrays.fill(bytes, 255);
        CarDesk x = new CarDesk();
        Due.due("a PACKAGE of 200", Desks.pack(x, bytes), 257);
        Due.due("its STATE", x.call(4, 257, 0), adler(bytes));
    }

    private static long adler(int... bytes) {
        Adler32 adler = new Adler32();
        for (int b : bytes) {
            adler.update(b);
        }
        return adler.getValue();
    }

    private static void worlds() {
        CarDesk x = new CarDesk();
        Desks.system(x, 1);
        Desks.system(x, 2);
        Due.due("a WORLD", x.make(1), 65);
        Due.due("of the SYSTEM made last", Desks.state(x, 65), 219);
        x.call(6, 2, 1000);
        Due.due("its STATE is the one of then", Desks.state(x, 65), 219);
        Due.due("a second WORLD", x.make(1), 66);
        Due.due("its STATE is the newer one", Desks.state(x, 66), 1000);
        x.drop(65);
        x.drop(66);
        x.drop(2);
        Due.due("a third WORLD", x.make(1), 67);
        Due.due("of the last SYSTEM that is there", Desks.state(x, 67), 218);
        Due.due("that SYSTEM can't go", x.drop(1), false);
    }

    private static void testers() {
        CarDesk x = Desks.house();
        x.call(7, 65, 100);
        x.call(7, 66, 200);
        Due.due("a TESTER has STATE 0", Desks.state(x, 193), 0);
        x.call(15, 193, 0);
        Due.due("it is of the WORLD made last", Desks.state(x, 193), 200);
        x.drop(193);
        x.drop(66);
        Due.due("a second TESTER", x.make(3), 194);
        x.call(15, 194, 0);
        Due.due("is of the last WORLD that is there", Desks.state(x, 194), 100);
    }

    private static void fleets() {
        CarDesk x = Desks.house();
        Due.due("a FLEET of two WORLDS", Desks.state(x, 321), 2);
        x.make(1);
        Due.due("a second FLEET", x.make(5), 322);
        Due.due("of three", Desks.state(x, 322), 3);
        Due.due("the first one stays", Desks.state(x, 321), 2);
        x.drop(65);
        x.drop(67);
        Due.due("a third FLEET", x.make(5), 323);
        Due.due("of one that is there", Desks.state(x, 323), 1);
    }

    private static void numbersComeNeverTwice() {
        for (int kind = 0; kind < 6; kind++) {
            CarDesk x = Desks.busyHouse();
            int next = kind == 1 ? 67 : 64 * kind + 2;
            Due.due("make(" + kind + ")", x.make(kind), next);
            Due.due("drop(" + next + ")", x.drop(next), true);
            Desks.collect(x, kind == 0 ? 0 : kind == 2 ? 1 : 2, 1);
            Due.due("make(" + kind + ") after that", x.make(kind), next + 1);
            Due.due("the dropped one stays gone", x.drop(next), false);
        }
    }

    private static void missing() {
        for (int kind = 0; kind < 6; kind++) {
            int made = kind;
            Due.refused("make(" + kind + ") of nothing", CarDesk::new, d -> d.make(made), -3);
        }
        int[] sorted = {0, 2, 4};
        for (int kind : sorted) {
            Due.refused("make(" + kind + ") in a house", Desks::house, d -> d.make(kind), -3);
            Due.refused("make(" + kind + ") of other sorts", () -> withoutSort(kind / 2), d -> d.make(kind), -3);
        }
        Due.refused("a TESTER without a WORLD", Promise05MakeTest::systemAlone, d -> d.make(3), -3);
        Due.refused("a FLEET without a WORLD", Promise05MakeTest::systemAlone, d -> d.make(5), -3);
        Due.refused("a WORLD without a SYSTEM", Promise05MakeTest::allGone, d -> d.make(1), -3);
        Due.refused("a TESTER, the WORLD is gone", Promise05MakeTest::allGone, d -> d.make(3), -3);
        Due.refused("a FLEET, the WORLD is gone", Promise05MakeTest::allGone, d -> d.make(5), -3);
        int[] unknown = {-1, 6, 7, 64, Integer.MIN_VALUE, Integer.MAX_VALUE};
        for (int kind : unknown) {
            Due.refused("make(" + kind + ")", Desks::busyHouse, d -> d.make(kind), -1);
        }
    }

    private static CarDesk withoutSort(int what) {
        CarDesk x = new CarDesk();
        x.collect((what + 1) % 3, 1);
        x.collect((what + 2) % 3, 1);
        return x;
    }

    private static CarDesk systemAlone() {
        CarDesk x = new CarDesk();
        Desks.system(x, 1);
        return x;
    }

    private static CarDesk allGone() {
        CarDesk x = systemAlone();
        x.make(1);
        x.drop(65);
        x.drop(1);
        return x;
    }

    private static void twenty() {
        for (int kind = 0; kind < 6; kind++) {
            int made = kind;
            CarDesk x = Desks.twentyOf(kind);
            Due.due("numbers(" + kind + ")", x.numbers(kind), 20);
            Due.refused("the 21st of " + kind, () -> Desks.twentyOf(made), d -> d.make(made), -4);
            Due.due("the last can go", x.drop(64 * kind + 20), true);
            Due.due("the 21st of " + kind + ", one is gone", x.make(kind), -4);
            Due.due("numbers(" + kind + ") then", x.numbers(kind), 19);
        }
        CarDesk x = Desks.twentyOf(0);
        x.make(1);
        x.make(0);
        Due.due("a refused make leaves the letters", x.told(8), 1);
        CarDesk y = Desks.twentyOf(4);
        y.make(4);
        Due.due("a refused make leaves the bytes", y.told(10), 1);
        y.collect(2, 1);
        Due.due("they go on", y.told(10), 2);
        missingComesFirst();
        ofTheTwentieth();
    }

    private static void ofTheTwentieth() {
        CarDesk x = new CarDesk();
        for (int i = 1; i <= 20; i++) {
            Desks.system(x, i);
        }
        for (int i = 1; i <= 20; i++) {
            x.make(1);
        }
        Due.due("a WORLD of the 20th SYSTEM", Desks.state(x, 65), 217 + 20);
        x.call(7, 84, 1000);
        x.make(3);
        x.make(5);
        x.call(15, 193, 0);
        Due.due("a TESTER of the 20th WORLD", Desks.state(x, 193), 1000);
        Due.due("a FLEET of twenty", Desks.state(x, 321), 20);
    }

    private static void missingComesFirst() {
        CarDesk x = new CarDesk();
        for (int i = 0; i < 20; i++) {
            Due.due("a BUS", Desks.bus(x, 1), 129 + i);
        }
        Due.due("the 21st BUS without bits", x.make(2), -3);
        CarDesk y = Desks.twentyOf(1);
        for (int number = 65; number <= 84; number++) {
            y.drop(number);
        }
        Due.due("the 21st WORLD", y.make(1), -4);
        y.drop(1);
        Due.due("the 21st WORLD without a SYSTEM", y.make(1), -3);
    }
}
