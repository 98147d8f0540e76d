import java.util.ArrayList;
import java.util.List;
import java.util.function.Supplier;
import java.util.function.ToLongFunction;

/** Prints every answer that is not the one that is due, and ends a test. */
final class Due {
    private static int wrong = 0;

    private Due() {
    }

    static void due(String call, long got, long want) {
        if (got != want) {
            wrong++;
            System.out.println(call + " answered " + got + ", due is " + want);
        }
    }

    static void due(String call, boolean got, boolean want) {
        due(call, got ? 1 : 0, want ? 1 : 0);
    }

    /** A refusal answers its number and changes nothing but how many there were. */
    static void refused(String call, Supplier<CarDesk> desk, ToLongFunction<CarDesk> act, long want) {
        CarDesk x = desk.get();
        int before = x.told(0);
        List<Long> seen = seen(x);
        due(call, act.applyAsLong(x), want);
        due(call + ", then told(0)", x.told(0), before + 1);
        due(call + ", then the rest is as it was", seen(x).equals(seen), true);
    }

    /** All that can be seen of a desk without changing it, but for told(0). */
    static List<Long> seen(CarDesk x) {
        List<Long> seen = new ArrayList<>();
        for (int what = 1; what <= 10; what++) {
            seen.add((long) x.told(what));
        }
        for (int kind = 0; kind < 6; kind++) {
            seen.add((long) x.numbers(kind));
        }
        for (int call = 0; call < 24; call++) {
            int first = 64 * (call % 6) + 1;
            for (int number = first; number < first + 3; number++) {
                seen.add(x.again(call, number, first));
            }
        }
        return seen;
    }

    static void end() {
        System.out.println(wrong == 0 ? "all answers are as due" : wrong + " answers are not as due");
        if (wrong != 0) {
            System.exit(1);
        }
    }
}
