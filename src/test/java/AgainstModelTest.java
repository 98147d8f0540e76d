import java.util.List;
import java.util.Random;

/** Long runs of mixed calls, up to the 512th of an object, each answer compared with the model's. */
public final class AgainstModelTest {
    private static final int RUNS = 400;
    private static final long[] EDGES = {0, 1, -1, 2, 63, 64, 127, 128, 255, 256, 1000000000L, -1000000000L,
        1000000001L, -1000000001L, (1L << 32) + 1, Long.MIN_VALUE, Long.MAX_VALUE};

    private final Random random;
    private final CarDesk desk = new CarDesk();
    private final Model model = new Model();
    private final int run;
    /** How many of a hundred calls are collect(), make() and drop(). */
    private final int collects;
    private final int makes;
    private final int drops;
    /** A call so frequent that TURNS run out, and a sort so frequent that 200 are reached; not in all runs. */
    private final int favourite;
    private final int favouriteSort;

    private AgainstModelTest(int run) {
        this.run = run;
        random = new Random(run);
        collects = 3 + random.nextInt(70);
        makes = random.nextInt(3) == 0 ? 2 : 5 + random.nextInt(20);
        drops = random.nextInt(8);
        favourite = random.nextInt(48);
        favouriteSort = random.nextInt(6);
    }

    public static void main(String[] args) {
        for (int run = 0; run < RUNS; run++) {
            new AgainstModelTest(run).run();
        }
        Due.end();
    }

    private void run() {
        boolean begun = random.nextInt(4) != 0;
        if (begun) {
            oneOfEachKind();
        }
        for (int i = begun ? 10 : 1; i <= 512; i++) {
            int which = random.nextInt(100);
            if (which < collects) {
                collect();
            } else if (which < collects + makes) {
                make();
            } else if (which < collects + makes + drops) {
                drop();
            } else {
                other();
            }
        }
    }

    /** Nine calls, so that most runs have things to call. */
    private void oneOfEachKind() {
        for (int what = 0; what < 3; what++) {
            Due.due(run + ": a first one of sort " + what, desk.collect(what, 1), model.collect(what, 1));
        }
        for (int kind = 0; kind < 6; kind++) {
            Due.due(run + ": a first thing of KIND " + kind, desk.make(kind), model.make(kind));
        }
    }

    private void other() {
        switch (random.nextInt(16)) {
            case 0 -> answer();
            case 1 -> fails();
            case 2 -> told();
            case 3 -> numbers();
            case 4, 5 -> again();
            default -> call();
        }
    }

    private void collect() {
        boolean often = favouriteSort < 3 && !rarely();
        int what = rarely() ? edge() : often ? favouriteSort : random.nextInt(3);
        long v = rarely() ? EDGES[random.nextInt(EDGES.length)] : random.nextInt(what == 0 ? 128 : what == 1 ? 2 : 256);
        Due.due(run + ": collect(" + what + ", " + v + ")", desk.collect(what, v), model.collect(what, v));
    }

    private void answer() {
        int call = someCall();
        long v = some();
        Due.due(run + ": answer(" + call + ", " + v + ")", desk.answer(call, v), model.answer(call, v));
    }

    private void fails() {
        int call = someCall();
        int kind = rarely() ? edge() : Math.max(0, random.nextInt(8) - 3);
        Due.due(run + ": fails(" + call + ", " + kind + ")", desk.fails(call, kind), model.fails(call, kind));
    }

    private void make() {
        int kind = rarely() ? edge() : random.nextInt(6);
        Due.due(run + ": make(" + kind + ")", desk.make(kind), model.make(kind));
    }

    private void drop() {
        int number = someNumber(random.nextInt(6));
        Due.due(run + ": drop(" + number + ")", desk.drop(number), model.drop(number));
    }

    private void told() {
        int what = random.nextInt(13) - 1;
        Due.due(run + ": told(" + what + ")", desk.told(what), model.told(what));
    }

    private void numbers() {
        int kind = random.nextInt(8) - 1;
        Due.due(run + ": numbers(" + kind + ")", desk.numbers(kind), model.numbers(kind));
    }

    private void call() {
        int call = someCall();
        int number = someNumber(Math.floorMod(call, 6));
        long a = argument(call);
        String words = run + ": call(" + call + ", " + number + ", " + a + ")";
        Due.due(words, desk.call(call, number, a), model.call(call, number, a));
    }

    private void again() {
        int call = someCall();
        int number = someNumber(Math.floorMod(call, 6));
        long a = argument(call);
        String words = run + ": again(" + call + ", " + number + ", " + a + ")";
        Due.due(words, desk.again(call, number, a), model.again(call, number, a));
    }

    private boolean rarely() {
        return random.nextInt(25) == 0;
    }

    private int edge() {
        return (int) EDGES[random.nextInt(EDGES.length)];
    }

    private int someCall() {
        if (favourite < 24 && random.nextInt(3) != 0) {
            return favourite;
        }
        return rarely() ? (random.nextBoolean() ? -1 : 24) : random.nextInt(24);
    }

    private int someNumber(int kind) {
        List<Integer> there = model.numbersThere(rarely() ? random.nextInt(6) : kind);
        if (there.isEmpty() || rarely()) {
            return random.nextBoolean() ? edge() : 64 * kind + random.nextInt(24);
        }
        return there.get(random.nextBoolean() ? 0 : random.nextInt(there.size()));
    }

    private long argument(int call) {
        return call >= 18 && !rarely() ? someNumber(call % 6) : some();
    }

    private long some() {
        return random.nextInt(3) == 0 ? EDGES[random.nextInt(EDGES.length)] : random.nextInt(2001) - 1000;
    }
}
