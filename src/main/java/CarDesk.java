/**
 * A desk over the parts of a car's house. Words in capitals are terms of the document (DOC.md),
 * which says what every call must answer.
 */
public final class CarDesk {
    private static final int SYSTEM = 0;
    private static final int WORLD = 1;
    private static final int BUS = 2;
    private static final int TESTER = 3;
    private static final int PACKAGE = 4;
    private static final int KINDS = 6;

    private static final int ASKS = 0;
    private static final int SETS = 1;
    private static final int STEPS = 2;
    private static final int COMPARES = 3;
    private static final int CALLS = 24;

    private static final int NO_REFUSAL = 0;
    private static final int UNKNOWN = -1;
    private static final int OUT_OF_RANGE = -2;
    private static final int NOT_IN_THIS_STATE = -3;
    private static final int NO_ROOM = -4;

    private static final int NUMBERS_OF_A_KIND = 64;
    private static final int MOST_THINGS = 20;
    private static final int MOST_COLLECTED = 200;
    private static final int MOST_TURNS = 50;
    private static final int MOST_ACTS_AGAIN = 128;
    private static final int MOST_FAILURE = 4;
    private static final long MOST_ARGUMENT = 1000000000L;
    private static final int FAILED_ANSWER = -100;
    private static final int PACKAGE_MODULUS = 65521;

    private final Tray letters = new Tray(127);
    private final Tray bits = new Tray(1);
    private final Tray bytes = new Tray(255);
    private final Shelf[] shelves = new Shelf[KINDS];
    private final long[] answers = new long[CALLS];
    private final int[] failures = new int[CALLS];

    private int refused = 0;
    private int failed = 0;
    private int lastFailure = 0;
    private int lastFailedCall = 0;
    private int lastFailedNumber = 0;
    private int answered = 0;
    private int thingsMade = 0;
    private int noted = 0;

    public CarDesk() {
        for (int kind = 0; kind < KINDS; kind++) {
            shelves[kind] = new Shelf();
        }
    }

    public int collect(int what, long v) {
        Tray tray = trayOfSort(what);
        if (tray == null) {
            return refuse(UNKNOWN);
        }
        if (v < 0 || v > tray.most) {
            return refuse(OUT_OF_RANGE);
        }
        if (tray.isFull()) {
            return refuse(NO_ROOM);
        }
        tray.put((int) v);
        noted++;
        return tray.count;
    }

    public int answer(int call, long v) {
        if (!isCall(call)) {
            return refuse(UNKNOWN);
        }
        if (!isArgument(v)) {
            return refuse(OUT_OF_RANGE);
        }
        answers[call] = v;
        noted++;
        return 1;
    }

    public int fails(int call, int kind) {
        if (!isCall(call)) {
            return refuse(UNKNOWN);
        }
        if (kind < 0 || kind > MOST_FAILURE) {
            return refuse(OUT_OF_RANGE);
        }
        int before = failures[call];
        failures[call] = kind;
        noted++;
        return before;
    }

    public int make(int kind) {
        if (!isKind(kind)) {
            return refuse(UNKNOWN);
        }
        if (!canBeMade(kind)) {
            return refuse(NOT_IN_THIS_STATE);
        }
        Shelf shelf = shelves[kind];
        if (shelf.isFull()) {
            return refuse(NO_ROOM);
        }
        Thing source = sourceOf(kind);
        shelf.put(new Thing(firstState(kind, source), source));
        emptyTrayOf(kind);
        thingsMade++;
        noted++;
        return NUMBERS_OF_A_KIND * kind + shelf.made;
    }

    public long call(int call, int number, long a) {
        Thing thing = thingForCall(call, number);
        int refusal = refusalOfCall(call, thing, a);
        if (thing == null || refusal != NO_REFUSAL) {
            return refuse(refusal);
        }
        noted++;
        int failure = failures[call];
        if (failure != 0) {
            tellFailed(failure, call, number);
            return FAILED_ANSWER - failure;
        }
        answered++;
        long outcome = outcomeOfCall(call, thing, a);
        changeByCall(call, thing, a);
        return outcome;
    }

    public int told(int what) {
        switch (what) {
            case 0: return refused;
            case 1: return failed;
            case 2: return lastFailure;
            case 3: return lastFailedCall;
            case 4: return lastFailedNumber;
            case 5: return answered;
            case 6: return thingsMade;
            case 7: return noted;
            case 8: return letters.count;
            case 9: return bits.count;
            case 10: return bytes.count;
            default: return OUT_OF_RANGE;
        }
    }

    public boolean drop(int number) {
        Thing thing = thingOf(number);
        if (thing == null || thing.isInUse()) {
            refused++;
            return false;
        }
        thing.leave();
        noted++;
        return true;
    }

    public int numbers(int kind) {
        return isKind(kind) ? shelves[kind].countThere() : 0;
    }

    /**
     * No second desk is built: a REFUSAL and a FAILED call leave all that a call depends on as it
     * was, so a desk that did the noted ACTS stands where this one stands.
     */
    public long again(int call, int number, long a) {
        if (noted > MOST_ACTS_AGAIN) {
            return NO_ROOM;
        }
        Thing thing = thingForCall(call, number);
        int refusal = refusalOfCall(call, thing, a);
        if (thing == null || refusal != NO_REFUSAL) {
            return refusal;
        }
        int failure = failures[call];
        return failure != 0 ? FAILED_ANSWER - failure : outcomeOfCall(call, thing, a);
    }

    private int refuse(int refusal) {
        refused++;
        return refusal;
    }

    private void tellFailed(int failure, int call, int number) {
        failed++;
        lastFailure = failure;
        lastFailedCall = call;
        lastFailedNumber = number;
    }

    private static boolean isKind(int kind) {
        return kind >= 0 && kind < KINDS;
    }

    private static boolean isCall(int call) {
        return call >= 0 && call < CALLS;
    }

    private static boolean isArgument(long a) {
        return a >= -MOST_ARGUMENT && a <= MOST_ARGUMENT;
    }

    private Tray trayOfSort(int what) {
        switch (what) {
            case 0: return letters;
            case 1: return bits;
            case 2: return bytes;
            default: return null;
        }
    }

    private Tray trayOfKind(int kind) {
        switch (kind) {
            case SYSTEM: return letters;
            case BUS: return bits;
            case PACKAGE: return bytes;
            default: return null;
        }
    }

    private boolean canBeMade(int kind) {
        Tray tray = trayOfKind(kind);
        if (tray != null) {
            return tray.count > 0;
        }
        int needed = kind == WORLD ? SYSTEM : WORLD;
        return shelves[needed].newest() != null;
    }

    private Thing sourceOf(int kind) {
        switch (kind) {
            case WORLD: return shelves[SYSTEM].newest();
            case TESTER: return shelves[WORLD].newest();
            default: return null;
        }
    }

    private long firstState(int kind, Thing source) {
        switch (kind) {
            case SYSTEM: return letters.hash();
            case WORLD: return source == null ? 0 : source.state;
            case BUS: return 1000L * bits.sum() + bits.changes();
            case TESTER: return 0;
            case PACKAGE: return bytes.checksum();
            default: return shelves[WORLD].countThere();
        }
    }

    private void emptyTrayOf(int kind) {
        Tray tray = trayOfKind(kind);
        if (tray != null) {
            tray.empty();
        }
    }

    /** A long, since COMPARES looks for the NUMBER a, which a cast could make another number of. */
    private Thing thingOf(long number) {
        if (number < 0 || number >= NUMBERS_OF_A_KIND * KINDS) {
            return null;
        }
        int known = (int) number;
        return shelves[known / NUMBERS_OF_A_KIND].at(known % NUMBERS_OF_A_KIND - 1);
    }

    /** Null for an unknown call, too: who has a thing from here has a call that is known. */
    private Thing thingForCall(int call, long number) {
        if (!isCall(call) || number / NUMBERS_OF_A_KIND != call % KINDS) {
            return null;
        }
        return thingOf(number);
    }

    private int refusalOfCall(int call, Thing thing, long a) {
        if (thing == null) {
            return UNKNOWN;
        }
        int form = call / KINDS;
        if (form == COMPARES && thingForCall(call, a) == null) {
            return UNKNOWN;
        }
        if (!isArgument(a)) {
            return OUT_OF_RANGE;
        }
        return form == STEPS ? refusalOfStep(call % KINDS, thing) : NO_REFUSAL;
    }

    private static int refusalOfStep(int kind, Thing thing) {
        if (kind == SYSTEM && thing.isInUse()) {
            return NOT_IN_THIS_STATE;
        }
        return thing.turns >= MOST_TURNS ? NO_ROOM : NO_REFUSAL;
    }

    private long outcomeOfCall(int call, Thing thing, long a) {
        switch (call / KINDS) {
            case ASKS: return thing.state + answers[call];
            case SETS: return thing.state;
            case STEPS: return thing.turns + 1;
            default: return thing.comparedWith(thingForCall(call, a));
        }
    }

    private void changeByCall(int call, Thing thing, long a) {
        int form = call / KINDS;
        if (form == SETS) {
            thing.state = a;
        }
        if (form == STEPS) {
            thing.state = steppedState(call, thing, a);
            thing.turns++;
        }
    }

    private long steppedState(int call, Thing thing, long a) {
        switch (call % KINDS) {
            case SYSTEM: return thing.state ^ a;
            case WORLD: return 31 * thing.state + a + answers[call];
            case BUS: return turnedLeft(thing.state, (int) (a & 63));
            case TESTER: return thing.state + thing.stateOfSource() + a;
            case PACKAGE: return thing.state + a * answers[call];
            default: return shelves[WORLD].sumOfStates() + a;
        }
    }

    private static long turnedLeft(long state, int places) {
        // Java shifts by the lowest six bits alone, so 64 - 0 shifts by none, as it should.
        return (state << places) | (state >>> (64 - places));
    }

    /** What was COLLECTED of one sort and is not used up. */
    private static final class Tray {
        private final int most;
        private final int[] values = new int[MOST_COLLECTED];
        private int count = 0;

        private Tray(int most) {
            this.most = most;
        }

        private boolean isFull() {
            return count >= MOST_COLLECTED;
        }

        private void put(int value) {
            if (count >= 0 && count < MOST_COLLECTED) {
                values[count] = value;
                count++;
            }
        }

        private void empty() {
            count = 0;
        }

        private long hash() {
            long hash = 7;
            for (int i = 0; i < count; i++) {
                hash = 31 * hash + values[i];
            }
            return hash;
        }

        private int sum() {
            int sum = 0;
            for (int i = 0; i < count; i++) {
                sum += values[i];
            }
            return sum;
        }

        private int changes() {
            int changes = 0;
            for (int i = 1; i < count; i++) {
                if (values[i] != values[i - 1]) {
                    changes++;
                }
            }
            return changes;
        }

        private long checksum() {
            int a = 1;
            int b = 0;
            for (int i = 0; i < count; i++) {
                a = (a + values[i]) % PACKAGE_MODULUS;
                b = (b + a) % PACKAGE_MODULUS;
            }
            return 65536L * b + a;
        }
    }

    /** The things of one KIND in the order in which they were made, those that are gone, too. */
    private static final class Shelf {
        private final Thing[] things = new Thing[MOST_THINGS];
        private int made = 0;

        private boolean isFull() {
            return made >= MOST_THINGS;
        }

        private void put(Thing thing) {
            if (made >= 0 && made < MOST_THINGS) {
                things[made] = thing;
                made++;
            }
        }

        private Thing at(int place) {
            if (place < 0 || place >= MOST_THINGS) {
                return null;
            }
            Thing thing = things[place];
            return thing != null && thing.there ? thing : null;
        }

        private Thing newest() {
            for (int place = MOST_THINGS - 1; place >= 0; place--) {
                Thing thing = at(place);
                if (thing != null) {
                    return thing;
                }
            }
            return null;
        }

        private int countThere() {
            int count = 0;
            for (int place = 0; place < MOST_THINGS; place++) {
                if (at(place) != null) {
                    count++;
                }
            }
            return count;
        }

        private long sumOfStates() {
            long sum = 0;
            for (int place = 0; place < MOST_THINGS; place++) {
                Thing thing = at(place);
                if (thing != null) {
                    sum += thing.state;
                }
            }
            return sum;
        }
    }

    /** One thing; its source is the SYSTEM of a WORLD, the WORLD of a TESTER, null for others. */
    private static final class Thing {
        private final Thing source;
        private long state;
        private int turns = 0;
        private int users = 0;
        private boolean there = true;

        private Thing(long state, Thing source) {
            this.state = state;
            this.source = source;
            if (source != null) {
                source.users++;
            }
        }

        private boolean isInUse() {
            return users > 0;
        }

        private void leave() {
            there = false;
            if (source != null) {
                source.users--;
            }
        }

        private long stateOfSource() {
            return source == null ? 0 : source.state;
        }

        private int comparedWith(Thing other) {
            if (other == null || state < other.state) {
                return 0;
            }
            return state == other.state ? 1 : 2;
        }
    }
}
