import java.util.ArrayList;
import java.util.List;
import java.util.function.Supplier;
import java.util.function.ToLongFunction;

/** Prints every answer that is not the one that is due, and ends a test. */
final class Due {
    private static int wrong = 0;
    private static String sentence = "";

    private Due() {
    }

    /** What is found wrong from here on breaks these words of the document. */
    static void about(String words) {
        sentence = words;
    }

    static void due(String call, long got, long want) {
        if (got != want) {
            wrong++;
            String broken = sentence.isEmpty() ? "" : "\"" + sentence + "\": ";
            System.out.println(broken + call + " answered " + got + ", due is " + want);
        }
    }

    static void due(String call, boolean got, boolean want) {
        due(call, got ? 1 : 0, want ? 1 : 0);
    }

    /**
     * A refusal answers its number and changes nothing but how many there were: what can be seen is
     * as before, and later acts answer what they answer at a desk that was not asked.
     */
    static void refused(String call, Supplier<CarDesk> desk, ToLongFunction<CarDesk> act, long want) {
        CarDesk x = desk.get();
        CarDesk unasked = desk.get();
        due(call, act.applyAsLong(x), want);
        due(call + ", then told(0)", x.told(0), unasked.told(0) + 1);
        due(call + ", then the rest is as it was", seen(x).equals(seen(unasked)), true);
        due(call + ", then later acts answer the same", later(x).equals(later(unasked)), true);
    }

    /** All that can be seen of a desk without changing it, but for told(0). */
    static List<Long> seen(CarDesk x) {
        List<Long> seen = new ArrayList<>();
        for (int what = 1; what <= 10; what++) {
            seen.add((long) x.told(what));
        }
        for (int kind = 0; kind < 6; kind++) {
            seen.add((long) x.numbers(kind));
        }
        for (int call = 0; call < 24; call++) {
            int first = 64 * (call % 6) + 1;
            for (int number = first; number < first + 2; number++) {
                seen.add(x.again(call, number, first));
            }
        }
        return seen;
    }

    /** FAILURES, STATES, ANSWERS, TURNS, what is collected and how many were made, by acts. */
    static List<Long> later(CarDesk x) {
        List<Long> later = new ArrayList<>();
        for (int call = 0; call < 24; call++) {
            later.add((long) x.fails(call, 0));
        }
        for (int call = 0; call < 24; call++) {
            int first = 64 * (call % 6) + 1;
            for (int number = first; number < first + 2; number++) {
                later.add(x.call(call, number, first));
                later.add(x.call(call % 6, number, 0));
            }
        }
        for (int kind = 0; kind < 6; kind++) {
            int number = x.make(kind);
            later.add((long) number);
            later.add(x.call(kind, number, 0));
        }
        for (int what = 0; what < 3; what++) {
            later.add((long) x.collect(what, 1));
        }
        return later;
    }

    static void end() {
        System.out.println(wrong == 0 ? "all answers are as due" : wrong + " answers are not as due");
        if (wrong != 0) {
            System.exit(1);
        }
    }
}
