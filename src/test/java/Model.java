import java.math.BigInteger;
import java.util.ArrayList;
import java.util.List;
import java.util.TreeMap;
import java.util.function.Consumer;

/** The document in its plainest words, with no thought of room or speed. */
final class Model {
    private static final long BILLION = 1000000000L;
    private static final int[] MOST = {127, 1, 255};

    /** A thing that is there, and the thing that it is of: the SYSTEM of a WORLD, the WORLD of a TESTER. */
    private static final class Part {
        private long state;
        private int turns = 0;
        private Part of = null;
    }

    private final List<List<Integer>> collected = new ArrayList<>();
    private final TreeMap<Integer, Part> things = new TreeMap<>();
    private final int[] made = new int[6];
    private final long[] answers = new long[24];
    private final int[] failures = new int[24];
    private final int[] counts = new int[8];
    private final List<Consumer<Model>> acts = new ArrayList<>();

    Model() {
        for (int what = 0; what < 3; what++) {
            collected.add(new ArrayList<>());
        }
    }

    int collect(int what, long v) {
        if (what < 0 || what > 2) {
            return refuse(-1);
        }
        if (v < 0 || v > MOST[what]) {
            return refuse(-2);
        }
        if (collected.get(what).size() == 200) {
            return refuse(-4);
        }
        collected.get(what).add((int) v);
        note(d -> d.collect(what, v));
        return collected.get(what).size();
    }

    int answer(int call, long v) {
        if (call < 0 || call > 23) {
            return refuse(-1);
        }
        if (v < -BILLION || v > BILLION) {
            return refuse(-2);
        }
        answers[call] = v;
        note(d -> d.answer(call, v));
        return 1;
    }

    int fails(int call, int kind) {
        if (call < 0 || call > 23) {
            return refuse(-1);
        }
        if (kind < 0 || kind > 4) {
            return refuse(-2);
        }
        int was = failures[call];
        failures[call] = kind;
        note(d -> d.fails(call, kind));
        return was;
    }

    int make(int kind) {
        if (kind < 0 || kind > 5) {
            return refuse(-1);
        }
        boolean ofCollected = kind % 2 == 0;
        Part of = kind == 1 ? newest(0) : kind == 3 ? newest(1) : null;
        boolean there = ofCollected ? !collected.get(kind / 2).isEmpty() : numbers(kind == 1 ? 0 : 1) > 0;
        if (!there) {
            return refuse(-3);
        }
        if (made[kind] == 20) {
            return refuse(-4);
        }
        Part part = new Part();
        part.of = of;
        part.state = ofCollected ? stateOf(collected.get(kind / 2), kind)
            : kind == 1 ? of.state : kind == 3 ? 0 : numbers(1);
        if (ofCollected) {
            collected.get(kind / 2).clear();
        }
        made[kind]++;
        things.put(64 * kind + made[kind], part);
        note(d -> d.make(kind));
        return 64 * kind + made[kind];
    }

    private static long stateOf(List<Integer> values, int kind) {
        if (kind == 0) {
            BigInteger state = BigInteger.valueOf(7);
            for (int letter : values) {
                state = state.multiply(BigInteger.valueOf(31)).add(BigInteger.valueOf(letter));
            }
            return state.longValue();
        }
        long first = kind == 4 ? 1 : 0;
        long second = 0;
        for (int i = 0; i < values.size(); i++) {
            first += values.get(i);
            boolean other = i > 0 && !values.get(i).equals(values.get(i - 1));
            second += kind == 4 ? first : other ? 1 : 0;
        }
        return kind == 4 ? 65536 * (second % 65521) + first % 65521 : 1000 * first + second;
    }

    long call(int call, int number, long a) {
        if (call < 0 || call > 23 || !isThere(number, call % 6)) {
            return refuse(-1);
        }
        int form = call / 6;
        if (form == 3 && !isThere(a, call % 6)) {
            return refuse(-1);
        }
        if (a < -BILLION || a > BILLION) {
            return refuse(-2);
        }
        Part part = things.get(number);
        if (call == 12 && isOfSome(part)) {
            return refuse(-3);
        }
        if (form == 2 && part.turns == 50) {
            return refuse(-4);
        }
        note(d -> d.call(call, number, a));
        return done(call, number, a);
    }

    private long done(int call, int number, long a) {
        Part part = things.get(number);
        long state = part.state;
        int turns = part.turns;
        long answer = switch (call / 6) {
            case 0 -> state + answers[call];
            case 1 -> set(part, a);
            case 2 -> step(part, call, BigInteger.valueOf(a));
            default -> 1 + Long.compare(state, things.get((int) a).state);
        };
        if (failures[call] == 0) {
            counts[5]++;
            return answer;
        }
        part.state = state;
        part.turns = turns;
        counts[1]++;
        counts[2] = failures[call];
        counts[3] = call;
        counts[4] = number;
        return -100 - failures[call];
    }

    private static long set(Part part, long a) {
        long was = part.state;
        part.state = a;
        return was;
    }

    private long step(Part part, int call, BigInteger a) {
        BigInteger state = BigInteger.valueOf(part.state);
        BigInteger answer = BigInteger.valueOf(answers[call]);
        BigInteger next = switch (call % 6) {
            case 0 -> state.xor(a);
            case 1 -> state.multiply(BigInteger.valueOf(31)).add(a).add(answer);
            case 2 -> BigInteger.valueOf(Long.rotateLeft(part.state, a.and(BigInteger.valueOf(63)).intValue()));
            case 3 -> state.add(BigInteger.valueOf(part.of.state)).add(a);
            case 4 -> state.add(a.multiply(answer));
            default -> sumOfWorlds().add(a);
        };
        part.state = next.longValue();
        part.turns++;
        return part.turns;
    }

    private BigInteger sumOfWorlds() {
        BigInteger sum = BigInteger.ZERO;
        for (Part world : things.subMap(64, 128).values()) {
            sum = sum.add(BigInteger.valueOf(world.state));
        }
        return sum;
    }

    int told(int what) {
        if (what < 0 || what > 10) {
            return -2;
        }
        int things = made[0] + made[1] + made[2] + made[3] + made[4] + made[5];
        return what == 6 ? things : what == 7 ? acts.size() : what > 7 ? collected.get(what - 8).size() : counts[what];
    }

    boolean drop(int number) {
        Part part = things.get(number);
        if (part == null || isOfSome(part)) {
            refuse(0);
            return false;
        }
        things.remove(number);
        note(d -> d.drop(number));
        return true;
    }

    int numbers(int kind) {
        return kind < 0 || kind > 5 ? 0 : things.subMap(64 * kind, 64 * kind + 64).size();
    }

    long again(int call, int number, long a) {
        if (acts.size() > 128) {
            return -4;
        }
        Model second = new Model();
        for (Consumer<Model> act : acts) {
            act.accept(second);
        }
        return second.call(call, number, a);
    }

    /** The NUMBERS of the things of a KIND that are there. */
    List<Integer> numbersThere(int kind) {
        return new ArrayList<>(things.subMap(64 * kind, 64 * kind + 64).keySet());
    }

    private Part newest(int kind) {
        List<Integer> there = numbersThere(kind);
        return there.isEmpty() ? null : things.get(there.get(there.size() - 1));
    }

    private boolean isThere(long number, int kind) {
        return number == (int) number && things.containsKey((int) number) && number / 64 == kind;
    }

    private boolean isOfSome(Part part) {
        return things.values().stream().anyMatch(other -> other.of == part);
    }

    private void note(Consumer<Model> act) {
        acts.add(act);
    }

    private int refuse(int refusal) {
        counts[0]++;
        return refusal;
    }
}
