import java.util.Arrays;
import java.util.Random;
import java.util.zip.Adler32;

/** Tests of the terms about things, what is COLLECTED, and how a thing IS MADE. */
final class TermsOfThings {
    private TermsOfThings() {
    }

    static void kinds() {
        CarDesk x = Desks.house();
        for (int kind = 0; kind < 6; kind++) {
            Due.due("a thing of KIND " + kind + " is there", x.numbers(kind) > 0, true);
        }
        Due.due("KIND -1", x.make(-1), -1);
        Due.due("KIND 6", x.make(6), -1);
        Due.due("no things of KIND 6", x.numbers(6), 0);
    }

    static void numbersInOrder() {
        CarDesk x = new CarDesk();
        for (int i = 1; i <= 20; i++) {
            Due.due("SYSTEM " + i, Desks.system(x, i), i);
            Due.due("WORLD " + i, x.make(1), 64 + i);
            Due.due("BUS " + i, Desks.bus(x, 1), 128 + i);
            Due.due("TESTER " + i, x.make(3), 192 + i);
            Due.due("PACKAGE " + i, Desks.pack(x, 1), 256 + i);
            Due.due("FLEET " + i, x.make(5), 320 + i);
        }
        CarDesk y = new CarDesk();
        Desks.bus(y, 1);
        Desks.bus(y, 0);
        y.drop(129);
        Due.due("a NUMBER comes never twice", Desks.bus(y, 1), 131);
        y.drop(131);
        Due.due("nor the one that was last", Desks.bus(y, 1), 132);
        y.make(2);
        Due.due("a refused make takes no NUMBER", Desks.bus(y, 1), 133);
    }

    static void twentyAtMost() {
        for (int kind = 0; kind < 6; kind++) {
            CarDesk x = Desks.twentyOf(kind);
            Due.due("the 20th of KIND " + kind + " is there", x.call(18 + kind, 64 * kind + 20, 64 * kind + 20), 1);
            Due.due("the 21st of KIND " + kind, x.make(kind), -4);
            Due.due("no thing is the 21st of KIND " + kind, x.call(kind, 64 * kind + 21, 0), -1);
            Due.due("twenty are there", x.numbers(kind), 20);
        }
        CarDesk y = Desks.twentyOf(2);
        Due.due("twenty BUSES leave room for a SYSTEM", y.make(0), 1);
    }

    static void goneOnesCount() {
        for (int kind = 0; kind < 6; kind++) {
            CarDesk x = Desks.twentyOf(kind);
            for (int i = 1; i <= 20; i++) {
                Due.due("drop", x.drop(64 * kind + i), true);
            }
            Due.due("none of KIND " + kind + " is there", x.numbers(kind), 0);
            Due.due("the 21st of KIND " + kind, x.make(kind), -4);
        }
    }

    static void stateWraps() {
        CarDesk x = new CarDesk();
        long state = 7;
        for (int i = 0; i < 40; i++) {
            x.collect(0, 127);
            state = 31 * state + 127;
        }
        Due.due("a SYSTEM", x.make(0), 1);
        Due.due("a SYSTEM of forty letters", x.call(0, 1, 0), state);
        x.make(1);
        Due.due("a WORLD of it", x.call(1, 65, 0), state);
        for (int i = 1; i <= 30; i++) {
            state = 31 * state - 1;
            x.call(13, 65, -1);
        }
        Due.due("a WORLD stepped thirty times", x.call(1, 65, 0), state);
        x.make(3);
        for (int i = 1; i <= 50; i++) {
            x.call(15, 193, Desks.BILLION);
        }
        Due.due("a TESTER stepped fifty times", x.call(3, 193, 0), 50 * (state + Desks.BILLION));
        x.make(5);
        x.make(1);
        x.make(1);
        long three = state + 2 * x.call(0, 1, 0);
        x.call(17, 321, 1);
        Due.due("a FLEET of three WORLDS", x.call(5, 321, 0), three + 1);
        packageWraps();
    }

    private static void packageWraps() {
        CarDesk x = new CarDesk();
        Desks.pack(x, 1);
        x.answer(16, Desks.BILLION);
        long state = x.call(4, 257, 0);
        for (int i = 1; i <= 20; i++) {
            x.call(16, 257, Desks.BILLION);
            state += Desks.BILLION * Desks.BILLION;
            Due.due("a PACKAGE and " + i + " times 10 to the 18th", x.call(4, 257, 0), state);
        }
    }

    static void turnsAtFirst() {
        for (int kind = 0; kind < 6; kind++) {
            CarDesk x = new CarDesk();
            int number = 64 * kind + 1;
            Desks.system(x, 1);
            if (kind != 0) {
                x.make(1);
                Desks.bus(x, 1);
                x.make(3);
                Desks.pack(x, 1);
                x.make(5);
            }
            Due.due("the first step of KIND " + kind, x.call(12 + kind, number, 1), 1);
            Due.due("the second step of KIND " + kind, x.call(12 + kind, number, 1), 2);
        }
        CarDesk y = new CarDesk();
        Desks.bus(y, 1);
        y.call(14, 129, 1);
        Desks.bus(y, 1);
        Due.due("a second BUS begins with none", y.call(14, 130, 1), 1);
        y.drop(129);
        Desks.bus(y, 1);
        Due.due("so does one after a drop", y.call(14, 131, 1), 1);
    }

    static void collected(int what, int most) {
        CarDesk x = new CarDesk();
        Due.due("one too small", x.collect(what, -1), -2);
        Due.due("the least", x.collect(what, 0), 1);
        Due.due("the most", x.collect(what, most), 2);
        Due.due("one too large", x.collect(what, most + 1), -2);
        Due.due("2 to the 32nd", x.collect(what, 1L << 32), -2);
        Due.due("two are collected", x.told(8 + what), 2);
        for (int v = 0; v <= most && v < 190; v++) {
            Due.due("collect(" + what + ", " + v + ")", x.collect(what, v), v + 3);
        }
    }

    static void twoHundredAtMost() {
        CarDesk x = new CarDesk();
        for (int i = 1; i <= 200; i++) {
            Due.due("a letter", x.collect(0, 1), i);
        }
        Due.due("the 201st letter", x.collect(0, 1), -4);
        for (int i = 1; i <= 200; i++) {
            Due.due("a bit", x.collect(1, 1), i);
        }
        Due.due("the 201st bit", x.collect(1, 1), -4);
        Due.due("a byte", x.collect(2, 1), 1);
        CarDesk y = new CarDesk();
        for (int i = 1; i <= 200; i++) {
            Due.due("a byte", y.collect(2, 1), i);
        }
        Due.due("the 201st byte", y.collect(2, 1), -4);
        y.make(4);
        for (int i = 1; i <= 200; i++) {
            Due.due("a byte after a PACKAGE", y.collect(2, 1), i);
        }
        Due.due("the 201st byte after a PACKAGE", y.collect(2, 1), -4);
    }

    static void systemOfLetters() {
        systemOf(217, 0);
        systemOf(218, 1);
        systemOf(344, 127);
        systemOf(31 * 344 + 1, 127, 1);
        systemOf(31 * 218 + 127, 1, 127);
        int[] letters = new Random(2).ints(200, 0, 128).toArray();
        long state = 7;
        for (int letter : letters) {
            state = 31 * state + letter;
        }
        systemOf(state, letters);
        CarDesk x = new CarDesk();
        Desks.system(x, 99);
        Desks.system(x, 0);
        Due.due("a second SYSTEM knows nothing of the first one's letters", x.call(0, 2, 0), 217);
    }

    private static void systemOf(long state, int... letters) {
        CarDesk x = new CarDesk();
        Due.due("a SYSTEM", Desks.system(x, letters), 1);
        Due.due("a SYSTEM of " + letters.length + " letters", x.call(0, 1, 0), state);
    }

    static void busOfOnes() {
        busOf(0, 0);
        busOf(1000, 1);
        busOf(0, 0, 0, 0);
        busOf(3000, 1, 1, 1);
        int[] ones = new int[200];
        Arrays.fill(ones, 1);
        busOf(200000, ones);
        busOf(0, new int[200]);
    }

    static void busOfOthers() {
        busOf(1001, 0, 1);
        busOf(1001, 1, 0);
        busOf(1002, 0, 1, 0);
        busOf(2003, 1, 0, 1, 0);
        busOf(2001, 0, 0, 1, 1);
        int[] turns = new int[200];
        for (int i = 0; i < 200; i++) {
            turns[i] = i % 2;
        }
        busOf(100199, turns);
        CarDesk x = new CarDesk();
        Desks.bus(x, 0, 1);
        Desks.bus(x, 0);
        Due.due("the first bit has none before it", x.call(2, 130, 0), 0);
    }

    private static void busOf(long state, int... bits) {
        CarDesk x = new CarDesk();
        Due.due("a BUS", Desks.bus(x, bits), 129);
        Due.due("a BUS of " + bits.length + " bits", x.call(2, 129, 0), state);
    }

    static void packageOfBytes() {
        packageOf(65536 + 1, 0);
        packageOf(65536 * 256 + 256, 255);
        packageOf(65536L * (2 + 2) + 2, 1, 0);
        packageOf(65536L * (1 + 2) + 2, 0, 1);
        packageOf(65536L * (2 + 202 + 457 + 464) + 464, 1, 200, 255, 7);
        int[] some = new Random(1).ints(200, 0, 256).toArray();
        packageOf(adler(some), some);
    }

    static void packageModulo() {
        packageOf(65536L * 65520 + 5653, nearTheModulus(16));
        packageOf(5653, nearTheModulus(17));
        packageOf(65536L + 5653, nearTheModulus(18));
        int[] most = new int[200];
        Arrays.fill(most, 255);
        packageOf(adler(most), most);
    }

    /** The sum of what a has behind each byte is 65504 and as many as there are zeros. */
    private static int[] nearTheModulus(int zeros) {
        int[] bytes = new int[zeros + 23];
        Arrays.fill(bytes, zeros, bytes.length, 255);
        bytes[zeros] = 42;
        return bytes;
    }

    private static void packageOf(long state, int... bytes) {
        CarDesk x = new CarDesk();
        Due.due("a PACKAGE", Desks.pack(x, bytes), 257);
        Due.due("a PACKAGE of " + bytes.length + " bytes", x.call(4, 257, 0), state);
    }

    private static long adler(int... bytes) {
        Adler32 adler = new Adler32();
        for (int b : bytes) {
            adler.update(b);
        }
        return adler.getValue();
    }

    static void oneAtLeast() {
        for (int what = 0; what < 3; what++) {
            CarDesk x = new CarDesk();
            x.collect((what + 1) % 3, 1);
            x.collect((what + 2) % 3, 1);
            Due.due("none of sort " + what, x.make(2 * what), -3);
            x.collect(what, 0);
            Due.due("one of sort " + what, x.make(2 * what), 128 * what + 1);
            Due.due("none again of sort " + what, x.make(2 * what), -3);
        }
    }

    static void goneThen() {
        for (int what = 0; what < 3; what++) {
            CarDesk x = new CarDesk();
            for (int sort = 0; sort < 3; sort++) {
                Desks.collect(x, sort, 1, 0, 1);
            }
            x.make(2 * what);
            for (int sort = 0; sort < 3; sort++) {
                Due.due("sort " + sort + " after a make of " + what, x.told(8 + sort), sort == what ? 0 : 3);
            }
        }
        CarDesk y = Desks.house();
        for (int sort = 0; sort < 3; sort++) {
            y.collect(sort, 1);
        }
        for (int kind = 1; kind <= 5; kind += 2) {
            y.make(kind);
        }
        for (int sort = 0; sort < 3; sort++) {
            Due.due("sort " + sort + " after other KINDS", y.told(8 + sort), 1);
        }
    }

    static void worldOfSystem() {
        CarDesk x = new CarDesk();
        Desks.system(x, 1);
        Desks.system(x, 2);
        Due.due("a WORLD", x.make(1), 65);
        Due.due("of the SYSTEM made last", x.call(1, 65, 0), 219);
        x.call(6, 2, 1000);
        Due.due("its STATE is the one of then", x.call(1, 65, 0), 219);
        Due.due("a second WORLD", x.make(1), 66);
        Due.due("its STATE is the newer one", x.call(1, 66, 0), 1000);
        x.drop(65);
        x.drop(66);
        x.drop(2);
        Due.due("a third WORLD", x.make(1), 67);
        Due.due("of the last SYSTEM that is there", x.call(1, 67, 0), 218);
        Due.due("that SYSTEM can't go", x.drop(1), false);
        x.drop(67);
        x.drop(1);
        Due.due("a WORLD of no SYSTEM", x.make(1), -3);
        CarDesk y = new CarDesk();
        for (int i = 1; i <= 20; i++) {
            Desks.system(y, i);
        }
        y.make(1);
        Due.due("a WORLD of the 20th SYSTEM", y.call(1, 65, 0), 217 + 20);
    }

    static void testerOfWorld() {
        CarDesk x = Desks.house();
        x.call(7, 65, 100);
        x.call(7, 66, 200);
        Due.due("a TESTER has STATE 0", x.call(3, 193, 0), 0);
        x.call(15, 193, 0);
        Due.due("it is of the WORLD made last", x.call(3, 193, 0), 200);
        x.drop(193);
        x.drop(66);
        Due.due("a second TESTER", x.make(3), 194);
        Due.due("has STATE 0", x.call(3, 194, 0), 0);
        x.call(15, 194, 0);
        Due.due("is of the last WORLD that is there", x.call(3, 194, 0), 100);
        x.drop(194);
        x.drop(65);
        Due.due("a TESTER of no WORLD", x.make(3), -3);
        CarDesk y = Desks.twentyOf(1);
        y.call(7, 84, 1000);
        y.make(3);
        y.call(15, 193, 0);
        Due.due("a TESTER of the 20th WORLD", y.call(3, 193, 0), 1000);
    }

    static void fleetOfWorlds() {
        CarDesk x = Desks.house();
        Due.due("a FLEET of two WORLDS", x.call(5, 321, 0), 2);
        x.make(1);
        Due.due("a second FLEET", x.make(5), 322);
        Due.due("of three", x.call(5, 322, 0), 3);
        Due.due("the first one stays", x.call(5, 321, 0), 2);
        x.drop(65);
        x.drop(67);
        Due.due("a third FLEET", x.make(5), 323);
        Due.due("of one that is there", x.call(5, 323, 0), 1);
        CarDesk y = Desks.twentyOf(1);
        y.make(5);
        Due.due("a FLEET of twenty", y.call(5, 321, 0), 20);
    }

    static void fleetOfOneAtLeast() {
        CarDesk x = new CarDesk();
        Due.due("a FLEET at first", x.make(5), -3);
        Desks.system(x, 1);
        Due.due("a FLEET without a WORLD", x.make(5), -3);
        x.make(1);
        Due.due("a FLEET of one", x.make(5), 321);
        Due.due("its STATE", x.call(5, 321, 0), 1);
        x.drop(65);
        Due.due("a FLEET of one that is gone", x.make(5), -3);
        Due.due("the first FLEET is there", x.call(5, 321, 0), 1);
    }
}
