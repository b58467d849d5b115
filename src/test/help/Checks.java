import java.lang.annotation.Retention;
import java.lang.annotation.RetentionPolicy;
import java.lang.reflect.InvocationTargetException;
import java.lang.reflect.Method;
import java.util.ArrayList;
import java.util.HashMap;
import java.util.List;
import java.util.Map;
import java.util.function.Function;
import java.util.function.Supplier;
import java.util.function.ToLongFunction;

/** What the tests of the edges share: sentences to test, answers that are due, refused calls that change nothing. */
final class Checks {
    /** The sentence of the document that a test is for. */
    @Retention(RetentionPolicy.RUNTIME)
    @interface Says {
        String value();
    }

    // Written out here as well, so that a constant with another value is seen.
    static final int NUMBER = -1;
    static final int FULL = -2;
    static final int NONE = -3;
    static final int KIND = -4;
    static final int NO_PARTING = -1000;
    static final long BAD = 1099511627776L;
    static final long UNKNOWN = 2199023255552L;
    static final long NOTHING = 3298534883328L;
    static final int MIN = Integer.MIN_VALUE;
    static final int MAX = Integer.MAX_VALUE;

    private static int wrong = 0;
    private static int checked = 0;
    private static String sentence = "";

    private Checks() { }

    static void due(String call, long got, long want) {
        checked++;
        if (got != want) {
            wrong++;
            System.out.println("\"" + sentence + "\": " + call + " answered " + got + ", due is " + want);
        }
    }

    static void write(DoFinder x, int... steps) {
        for (int step : steps) {
            x.step(step);
        }
    }

    static int routine(DoFinder x, int arguments, int... steps) {
        write(x, steps);
        return x.add(arguments);
    }

    /** What steps answer as a routine of 2 in an object of its own. */
    static long ran(int a, int b, int... steps) {
        DoFinder x = new DoFinder();
        routine(x, 2, steps);
        return x.run(0, a, b);
    }

    static int burnt(int a, int b, int... steps) {
        DoFinder x = new DoFinder();
        routine(x, 2, steps);
        return x.fuel(0, a, b);
    }

    static int[] join(int[] one, int... other) {
        int[] both = new int[one.length + other.length];
        System.arraycopy(one, 0, both, 0, one.length);
        System.arraycopy(other, 0, both, one.length, other.length);
        return both;
    }

    /** Objects on which a call is refused. */
    enum State {
        NEW(DoFinder::new),
        SOME(Checks::some),
        ALL(Checks::all);

        private final Supplier<DoFinder> maker;

        State(Supplier<DoFinder> maker) {
            this.maker = maker;
        }

        DoFinder make() {
            return maker.get();
        }
    }

    /** Some of each, and room for more: 4 routines, 3 examples of an ask of 1, 3 steps; way 0 is found, 200 is open. */
    private static DoFinder some() {
        DoFinder x = new DoFinder();
        routine(x, 1, 10, 18, 10, 15, 14);
        routine(x, 2, 10, 11, 13);
        routine(x, 1, 1, 21);
        routine(x, 1, 1, 10, 15);
        x.show(4, 0, 4);
        x.leave(0, 0, false);
        x.leave(5, 0, true);
        x.limit(50);
        write(x, 3, 10, 12);
        return x;
    }

    /** As many of each as may be: 12 routines, even ones of 1, odd ones of 2; 8 examples of an ask of 2; 12 steps. */
    private static DoFinder all() {
        DoFinder x = new DoFinder();
        for (int r = 0; r < 10; r += 2) {
            routine(x, 1, 10, r / 2, 12);
            routine(x, 2, 10, 11, 12 + r / 2);
        }
        routine(x, 1, 1, 10, 22);
        routine(x, 2, 11, 10, 12);
        x.ask(2);
        for (int e = 0; e < 6; e++) {
            x.show(e, e - 1, 2 * e - 1);
        }
        x.leave(7, 0, true);
        x.leave(3, 0, false);
        x.limit(200);
        write(x, 1, 2, 3, 4, 5, 6, 12, 12, 12, 12, 12, 10);
        return x;
    }

    /** What can be asked of an object, in parts, as it is used for 512 calls at most. */
    private static final List<Function<DoFinder, List<Long>>> TELLERS = List.of(Checks::tellRoutines, Checks::tellRuns,
        Checks::tellFuel, Checks::tellWritten, Checks::tellFound, Checks::tellExamples, Checks::tellDoubles,
        Checks::tellRoom);

    private static final Map<State, List<List<Long>>> TOLD = new HashMap<>();

    private static List<Long> tellRoutines(DoFinder x) {
        List<Long> told = new ArrayList<>();
        for (int what = 0; what < 10; what++) {
            told.add((long) x.many(what));
        }
        for (int r = 0; r <= 12; r++) {
            told.add((long) x.of(r, 0));
            told.add((long) x.of(r, 1));
            for (int k = 0; k < 12; k++) {
                told.add((long) x.of(r, 10 + k));
            }
        }
        return told;
    }

    private static List<Long> tellRuns(DoFinder x) {
        List<Long> told = new ArrayList<>();
        for (int r = 0; r <= 12; r++) {
            for (int[] input : new int[][] {{0, 0}, {5, 2}, {-3, 4}, {MAX, MIN}}) {
                told.add(x.run(r, input[0], input[1]));
                told.add((long) x.fuel(r, input[0], input[1]));
                told.add(x.would(100 * r, input[0], input[1]));
            }
        }
        return told;
    }

    private static List<Long> tellFuel(DoFinder x) {
        return List.of((long) x.limit(60), (long) x.limit(60));
    }

    private static List<Long> tellWritten(DoFinder x) {
        List<Long> told = new ArrayList<>();
        told.add((long) x.many(8));
        int number = x.add(2);
        told.add((long) number);
        for (int k = 0; k < 12; k++) {
            told.add((long) x.of(number, 10 + k));
        }
        told.add((long) x.scrap());
        told.add((long) x.step(1));
        return told;
    }

    private static List<Long> tellFound(DoFinder x) {
        List<Long> told = new ArrayList<>();
        for (int k = 0; k < 30; k++) {
            told.add((long) x.found(k));
            told.add((long) x.open(k));
            told.add((long) x.near(k));
        }
        for (int k = 0; k < 4; k++) {
            told.add((long) x.joint(k));
            told.add((long) x.parting(k));
        }
        return told;
    }

    private static List<Long> tellExamples(DoFinder x) {
        List<Long> told = new ArrayList<>();
        for (int e = 0; e < 9; e++) {
            for (int way : new int[] {0, 1, 100, 101, 110, 129, 200, 201, 300, 301, 1000, 1101, 10000, 11101}) {
                told.add((long) x.misses(way));
            }
            told.add((long) x.many(3));
            told.add((long) x.many(4));
            told.add((long) x.drop());
        }
        return told;
    }

    private static List<Long> tellDoubles(DoFinder x) {
        List<Long> told = new ArrayList<>();
        for (int r = 0; r < 12; r++) {
            told.add((long) x.first(r));
            for (int s = 0; s < 12; s++) {
                told.add((long) x.same(r, s));
                told.add((long) x.differ(r, s));
            }
        }
        return told;
    }

    /** What there is room for yet. */
    private static List<Long> tellRoom(DoFinder x) {
        List<Long> told = new ArrayList<>();
        for (int n = 0; n < 13; n++) {
            told.add((long) x.step(7));
            told.add((long) x.show(n, n, n));
        }
        told.add((long) x.ask(1));
        for (int n = 0; n < 13; n++) {
            told.add((long) x.add(1));
            told.add((long) x.scrap());
            told.add((long) x.step(3));
        }
        return told;
    }

    private static List<List<Long>> told(State state) {
        if (!TOLD.containsKey(state)) {
            List<List<Long>> all = new ArrayList<>();
            for (Function<DoFinder, List<Long>> teller : TELLERS) {
                all.add(teller.apply(state.make()));
            }
            TOLD.put(state, all);
        }
        return TOLD.get(state);
    }

    /** The call answers so, and later calls answer as if it had not been made. */
    static void leavesAll(State state, String call, ToLongFunction<DoFinder> made, long want) {
        String where = call + " on " + state;
        long answer = made.applyAsLong(state.make());
        due(where, answer, want);
        // A call that was taken changes something as it should: a FUEL far too great would let the rest run on and on.
        if (answer != want) {
            return;
        }
        for (int t = 0; t < TELLERS.size(); t++) {
            DoFinder x = state.make();
            made.applyAsLong(x);
            List<Long> got = TELLERS.get(t).apply(x);
            List<Long> told = told(state).get(t);
            for (int n = 0; n < told.size(); n++) {
                if (!got.get(n).equals(told.get(n))) {
                    due("behind " + where + " answer " + n + " of part " + t, got.get(n), told.get(n));
                    break;
                }
            }
            checked++;
        }
    }

    /** The call is refused with that answer, and changes nothing. */
    static void refused(State state, String call, ToLongFunction<DoFinder> refusal, long want) {
        leavesAll(state, call, refusal, want);
    }

    static void refused(String call, ToLongFunction<DoFinder> refusal, long want) {
        for (State state : State.values()) {
            refused(state, call, refusal, want);
        }
    }

    /** Runs the tests of a class, each that names a sentence; ends with 1 if an answer was wrong. */
    static void runAll(Class<?> tests) {
        int run = 0;
        for (Method test : tests.getDeclaredMethods()) {
            Says says = test.getAnnotation(Says.class);
            if (says != null) {
                sentence = says.value();
                test.setAccessible(true);
                run++;
                runOne(test);
            }
        }
        System.out.println(run + " sentences, " + checked + " answers looked at, " + wrong + " wrong");
        if (wrong != 0 || run == 0) {
            System.exit(1);
        }
    }

    private static void runOne(Method test) {
        try {
            test.invoke(null);
        } catch (InvocationTargetException | IllegalAccessException thrown) {
            wrong++;
            System.out.println("\"" + sentence + "\": " + test.getName() + " threw " + thrown.getCause());
        }
    }
}
