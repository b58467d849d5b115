import java.util.ArrayList;
import java.util.EnumSet;
import java.util.List;
import java.util.Set;
import java.util.function.Function;
import java.util.function.ToLongFunction;

// A call changes what its promise says and nothing else; one that only tells changes nothing at all.
public final class StateTest {
    private static final long BAD = Checks.BAD;
    private static final long UNKNOWN = Checks.UNKNOWN;

    /** What an object holds, each part told without the others. */
    private enum Part {
        ROUTINES(StateTest::tellRoutines),
        FUEL(StateTest::tellFuel),
        WRITTEN(StateTest::tellWritten),
        ASK(StateTest::tellAsk);

        private final Function<DoFinder, List<Integer>> teller;

        Part(Function<DoFinder, List<Integer>> teller) {
            this.teller = teller;
        }
    }

    private static List<Integer> tellRoutines(DoFinder x) {
        List<Integer> told = new ArrayList<>();
        told.add(x.many(0));
        for (int r = 0; r < 12; r++) {
            told.add(x.of(r, 0));
            told.addAll(stepsOf(x, r));
        }
        return told;
    }

    private static List<Integer> stepsOf(DoFinder x, int r) {
        List<Integer> steps = new ArrayList<>();
        steps.add(x.of(r, 1));
        for (int k = 0; k < 12; k++) {
            steps.add(x.of(r, 10 + k));
        }
        return steps;
    }

    private static List<Integer> tellFuel(DoFinder x) {
        return List.of(x.limit(60));
    }

    /** The steps that are written are seen once they are a routine. */
    private static List<Integer> tellWritten(DoFinder x) {
        List<Integer> told = new ArrayList<>();
        told.add(x.many(8));
        told.addAll(stepsOf(x, x.add(2)));
        return told;
    }

    /**
     * The examples are seen by what misses them. So that this tells nothing of the routines and FUEL as they were,
     * routine 0, of 5 steps, becomes one that answers a number, its argument, or BAD.
     */
    private static List<Integer> tellAsk(DoFinder x) {
        List<Integer> told = new ArrayList<>();
        told.add(x.many(9));
        x.limit(60);
        for (int at = 0; at < 4; at++) {
            x.mend(0, at, at % 2 == 0 ? 0 : 20);
        }
        for (int left = x.many(1); left > 0; left--) {
            for (int last = 0; last <= 12; last++) {
                if (last != 11) {
                    x.mend(0, 4, last);
                    told.add(x.misses(0));
                }
            }
            told.add(x.drop());
        }
        return told;
    }

    private static void changes(String call, ToLongFunction<DoFinder> made, long want, Part... changed) {
        Set<Part> due = EnumSet.noneOf(Part.class);
        due.addAll(List.of(changed));
        for (Part part : Part.values()) {
            DoFinder x = Checks.State.SOME.make();
            Checks.due(call, made.applyAsLong(x), want);
            List<Integer> before = part.teller.apply(Checks.State.SOME.make());
            boolean other = !part.teller.apply(x).equals(before);
            Checks.due(call + " changes " + part, other ? 1 : 0, due.contains(part) ? 1 : 0);
        }
    }

    @Checks.Says("step, scrap: A STEP is written. No STEPS are written any more.")
    static void steps() {
        changes("step(5)", x -> x.step(5), 4, Part.WRITTEN);
        changes("scrap()", x -> x.scrap(), 3, Part.WRITTEN);
    }

    @Checks.Says("add: What is written is a ROUTINE from now on (no STEPS are written then)")
    static void added() {
        changes("add(1)", x -> x.add(1), 4, Part.ROUTINES, Part.WRITTEN);
        changes("add(2)", x -> x.add(2), 4, Part.ROUTINES, Part.WRITTEN);
    }

    @Checks.Says("mend: A STEP of a ROUTINE becomes another one")
    static void mended() {
        changes("mend(0, 0, 5)", x -> x.mend(0, 0, 5), 10, Part.ROUTINES);
        changes("mend(1, 2, 12)", x -> x.mend(1, 2, 12), 13, Part.ROUTINES);
        changes("mend(1, 2, 13)", x -> x.mend(1, 2, 13), 13);
        DoFinder x = Checks.State.SOME.make();
        x.mend(1, 1, 9);
        for (int r = 0; r < 4; r++) {
            for (int k = 0; k < 5; k++) {
                int before = Checks.State.SOME.make().of(r, 10 + k);
                Checks.due("step " + k + " of " + r, x.of(r, 10 + k), r == 1 && k == 1 ? 9 : before);
            }
        }
    }

    @Checks.Says("limit: FUEL becomes n")
    static void limited() {
        changes("limit(7)", x -> x.limit(7), 50, Part.FUEL);
        changes("limit(50)", x -> x.limit(50), 50);
    }

    @Checks.Says("ask: A new ASK, without EXAMPLES")
    static void asked() {
        changes("ask(1)", x -> x.ask(1), 3, Part.ASK);
        changes("ask(2)", x -> x.ask(2), 3, Part.ASK);
    }

    @Checks.Says("show, leave: An EXAMPLE comes. drop: The latest EXAMPLE is no more")
    static void examples() {
        changes("show(1, 2, 3)", x -> x.show(1, 2, 3), 3, Part.ASK);
        changes("leave(1, 2, true)", x -> x.leave(1, 2, true), 3, Part.ASK);
        changes("leave(1, 2, false)", x -> x.leave(1, 2, false), 3, Part.ASK);
        changes("drop()", x -> x.drop(), 2, Part.ASK);
        changes("show and drop", x -> x.show(1, 2, 3) + x.drop(), 6);
    }

    @Checks.Says("like: THE ASK becomes a ROUTINE's own")
    static void likened() {
        changes("like(1, 4)", x -> x.like(1, 4), 4, Part.ASK);
        changes("like(2, 8)", x -> x.like(2, 8), 8, Part.ASK);
        changes("like(0, 0)", x -> x.like(0, 0), 0, Part.ASK);
    }

    @Checks.Says("like: .. its OUTCOME as an EXAMPLE (ANY where it is UNKNOWN): as it was then")
    static void likeKeepsWhatWas() {
        DoFinder x = new DoFinder();
        Checks.routine(x, 1, 1, 2, 3);
        Checks.routine(x, 1, 4);
        x.limit(2);
        Checks.due("like", x.like(0, 2), 2);
        x.limit(60);
        Checks.due("3 isn't due, though it is known now", x.misses(100), 0);
        Checks.due("like", x.like(0, 2), 2);
        x.limit(2);
        Checks.due("3 is due, though it is UNKNOWN now", x.misses(100), 2);
        Checks.due("what is UNKNOWN may meet it", x.open(0), 0);
        x.limit(60);
        x.mend(0, 2, 4);
        Checks.due("3 is due, though it answers 4 now", x.misses(0), 2);
    }

    private static void tells(Checks.State state, String call, ToLongFunction<DoFinder> made, long want) {
        Checks.leavesAll(state, call, made, want);
    }

    @Checks.Says("of, run, fuel: they tell, and change nothing")
    static void routinesAreTold() {
        for (Checks.State state : new Checks.State[] {Checks.State.SOME, Checks.State.ALL}) {
            tells(state, "of(1, 0)", x -> x.of(1, 0), 2);
            tells(state, "of(1, 1)", x -> x.of(1, 1), 3);
            tells(state, "of(1, 11)", x -> x.of(1, 11), 11);
        }
        tells(Checks.State.SOME, "run(1, 5, 2)", x -> x.run(1, 5, 2), 3);
        tells(Checks.State.SOME, "run(3, 0, 0)", x -> x.run(3, 0, 0), BAD);
        tells(Checks.State.SOME, "run(2, 0, 0)", x -> x.run(2, 0, 0), UNKNOWN);
        tells(Checks.State.SOME, "fuel(2, 0, 0)", x -> x.fuel(2, 0, 0), 50);
        tells(Checks.State.ALL, "run(7, 9, 4)", x -> x.run(7, 9, 4), 2);
        tells(Checks.State.ALL, "fuel(10, 9, 4)", x -> x.fuel(10, 9, 4), 200);
    }

    @Checks.Says("would, found, open, joint, near, misses, parting, many: they tell, and change nothing")
    static void foundIsTold() {
        tells(Checks.State.SOME, "would(125, 7, 0)", x -> x.would(125, 7, 0), 2);
        tells(Checks.State.SOME, "would(10125, 7, 0)", x -> x.would(10125, 7, 0), 2);
        tells(Checks.State.SOME, "found(0)", x -> x.found(0), 0);
        tells(Checks.State.SOME, "open(0)", x -> x.open(0), 200);
        tells(Checks.State.SOME, "joint(0)", x -> x.joint(0), 10000);
        tells(Checks.State.SOME, "near(0)", x -> x.near(0), 118);
        tells(Checks.State.SOME, "misses(118)", x -> x.misses(118), 1);
        tells(Checks.State.SOME, "misses(40118)", x -> x.misses(40118), 2);
        for (int what = 0; what < 4; what++) {
            int asked = what;
            tells(Checks.State.SOME, "parting(" + what + ")", x -> x.parting(asked), new int[] {-6, 0, 1, 1}[what]);
        }
        tells(Checks.State.ALL, "near(0)", x -> x.near(0), 100);
        int[] some = {4, 3, 23, 1, 1, 69, 2, 0, 3, 1};
        int[] all = {12, 8, 24, 0, 0, 144, 0, 1, 12, 2};
        for (int what = 0; what < 10; what++) {
            int asked = what;
            tells(Checks.State.SOME, "many(" + what + ")", x -> x.many(asked), some[what]);
            tells(Checks.State.ALL, "many(" + what + ")", x -> x.many(asked), all[what]);
        }
    }

    @Checks.Says("same, differ, first: they tell, and change nothing")
    static void doublesAreTold() {
        tells(Checks.State.SOME, "same(0, 0)", x -> x.same(0, 0), 1);
        tells(Checks.State.SOME, "same(2, 2)", x -> x.same(2, 2), 0);
        tells(Checks.State.SOME, "differ(0, 3)", x -> x.differ(0, 3), 0);
        tells(Checks.State.SOME, "first(3)", x -> x.first(3), 3);
        tells(Checks.State.ALL, "same(1, 11)", x -> x.same(1, 11), 1);
        tells(Checks.State.ALL, "differ(1, 3)", x -> x.differ(1, 3), 0);
        tells(Checks.State.ALL, "first(11)", x -> x.first(11), 1);
    }

    public static void main(String[] args) {
        Checks.runAll(StateTest.class);
    }
}
