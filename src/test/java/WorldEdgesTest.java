// The edges of Terms 3 and of promises 14, 21 and 23 to 25: the world, like, parting, and doubles.
public final class WorldEdgesTest {
    private static final int NUMBER = Checks.NUMBER;
    private static final int NONE = Checks.NONE;
    private static final int KIND = Checks.KIND;
    private static final int NO_PARTING = Checks.NO_PARTING;
    private static final int MIN = Checks.MIN;
    private static final int MAX = Checks.MAX;

    private static void due(String call, long got, long want) {
        Checks.due(call, got, want);
    }

    /** Two routines, 0 and 1, of as many arguments. */
    private static DoFinder two(int arguments, int[] one, int... other) {
        DoFinder x = new DoFinder();
        Checks.routine(x, arguments, one);
        Checks.routine(x, arguments, other);
        return x;
    }

    private static int[] steps(int... steps) {
        return steps;
    }

    /** 0 but for one number, -9 to 9, and there 1. */
    private static int[] oneAt(int number) {
        return steps(0, 10, Math.abs(number), number < 0 ? 12 : 13, 27, 1, 18);
    }

    /** 0 but for one number, and there it runs out. */
    private static int[] endlessAt(int number) {
        return steps(0, 10, Math.abs(number), number < 0 ? 12 : 13, 28, 1, 26, 0);
    }

    /** 0 but for one number, and there BAD. */
    private static int[] badAt(int number) {
        return steps(0, 10, Math.abs(number), number < 0 ? 12 : 13, 27, 12, 18);
    }

    private static void differAt(String where, DoFinder x, int place) {
        due(where + ", differ", x.differ(0, 1), place);
        due(where + ", differ the other way", x.differ(1, 0), place);
        due(where + ", same", x.same(0, 1), place == NONE ? 1 : 0);
        due(where + ", first", x.first(1), place == NONE ? 0 : 1);
        due(where + ", pairs", x.many(7), place == NONE ? 1 : 0);
    }

    // ---- terms: the world

    @Checks.Says("THE WORLD of ROUTINES of 1 ARGUMENT: the INPUTS -6 to 6")
    static void theWorldOfOne() {
        int[] zero = steps(0);
        differAt("at -7 only", two(1, zero, oneAt(-7)), NONE);
        differAt("at 7 only", two(1, zero, oneAt(7)), NONE);
        for (int number = -6; number <= 6; number++) {
            differAt("at " + number + " only", two(1, zero, oneAt(number)), number + 6);
        }
        differAt("up to 5", two(1, steps(10), 10, 5, 16), 12);
        differAt("up to 6", two(1, steps(10), 10, 6, 16), NONE);
        differAt("from -5", two(1, steps(10), 10, 0, 5, 13, 17), 0);
        differAt("from -6", two(1, steps(10), 10, 0, 6, 13, 17), NONE);
    }

    @Checks.Says("of 2: pairs of -3 to 3")
    static void theWorldOfTwo() {
        differAt("the first up to 2", two(2, steps(10), 10, 2, 16), 42);
        differAt("the first up to 3", two(2, steps(10), 10, 3, 16), NONE);
        differAt("the first from -2", two(2, steps(10), 10, 0, 2, 13, 17), 0);
        differAt("the first from -3", two(2, steps(10), 10, 0, 3, 13, 17), NONE);
        differAt("the second up to 2", two(2, steps(11), 11, 2, 16), 6);
        differAt("the second up to 3", two(2, steps(11), 11, 3, 16), NONE);
        differAt("the second from -2", two(2, steps(11), 11, 0, 2, 13, 17), 0);
        differAt("the second from -3", two(2, steps(11), 11, 0, 3, 13, 17), NONE);
        differAt("the last pair only", two(2, steps(10, 11, 12), 10, 11, 12, 5, 16), 48);
        differAt("not even the last pair", two(2, steps(10, 11, 12), 10, 11, 12, 6, 16), NONE);
        differAt("the first pair only", two(2, steps(10, 11, 12), 10, 11, 12, 0, 5, 13, 17), 0);
        differAt("not even the first pair", two(2, steps(10, 11, 12), 10, 11, 12, 0, 6, 13, 17), NONE);
    }

    @Checks.Says("pairs of -3 to 3, by the first, then by the second one")
    static void pairsInOrder() {
        differAt("the second is greater than -3", two(2, steps(11), 0, 3, 13), 1);
        differAt("the first is greater than -3", two(2, steps(10), 0, 3, 13), 7);
        // 7 a + b + 24 is the place; 24 is made as 3 times 8.
        int[] place = {10, 7, 14, 11, 12, 3, 8, 14, 12};
        for (int least = 1; least <= 9; least++) {
            differAt("from place " + least, two(2, place, Checks.join(place, least - 1, 16)), least);
        }
    }

    @Checks.Says("Two ROUTINES of as many ARGUMENTS are DOUBLES if they have the same OUTCOMES on all of THE WORLD")
    static void sameOutcomes() {
        differAt("an answer and BAD", two(1, steps(0), badAt(6)), 12);
        differAt("an answer and BAD", two(1, steps(0), badAt(-6)), 0);
        differAt("beyond the world", two(1, steps(0), badAt(7)), NONE);
        differAt("BAD and BAD, for another reason", two(1, badAt(6), 0, 10, 6, 13, 28, 0, 15, 18), NONE);
        differAt("0 and always BAD", two(1, steps(0), 12), 0);
        differAt("always BAD, both", two(1, steps(20), 12), NONE);
        DoFinder unlike = new DoFinder();
        Checks.routine(unlike, 1, 5);
        Checks.routine(unlike, 2, 5);
        due("the same answer, of unlike arguments", unlike.many(7), 0);
        due("the same answer, of unlike arguments", unlike.first(1), 1);
        due("none at all", new DoFinder().many(7), 0);
        DoFinder alone = new DoFinder();
        Checks.routine(alone, 1, 5);
        due("one has no pair with itself", alone.many(7), 0);
    }

    @Checks.Says("DOUBLES .. none of them UNKNOWN")
    static void noneUnknown() {
        for (int number : new int[] {-6, 0, 6}) {
            differAt("both UNKNOWN at " + number, two(1, endlessAt(number), endlessAt(number)), number + 6);
            differAt("one UNKNOWN at " + number, two(1, steps(0), endlessAt(number)), number + 6);
            differAt("BAD and UNKNOWN at " + number, two(1, badAt(number), endlessAt(number)), number + 6);
        }
        for (int number : new int[] {-7, 7}) {
            differAt("both UNKNOWN at " + number, two(1, endlessAt(number), endlessAt(number)), NONE);
            differAt("one UNKNOWN at " + number, two(1, steps(0), endlessAt(number)), NONE);
        }
        DoFinder x = two(1, steps(1, 2, 12), 2, 1, 12);
        x.limit(3);
        differAt("FUEL is just enough", x, NONE);
        x.limit(2);
        differAt("FUEL is one short", x, 0);
    }

    // ---- promise 14

    @Checks.Says("like: for each of the first n INPUTS of THE WORLD its OUTCOME as an EXAMPLE: of 1")
    static void likeFirstInputsOfOne() {
        DoFinder x = new DoFinder();
        Checks.routine(x, 1, 0);
        for (int number = -6; number <= 3; number++) {
            Checks.routine(x, 1, oneAt(number));
        }
        Checks.routine(x, 1, oneAt(-7));
        for (int n = 0; n <= 8; n++) {
            due("like(0, " + n + ")", x.like(0, n), n);
            for (int r = 1; r <= 10; r++) {
                due("apart at input " + (r - 1) + " of " + n, x.misses(100 * r), r - 1 < n ? 1 : 0);
            }
            due("apart outside", x.misses(1100), 0);
        }
    }

    @Checks.Says("like: for each of the first n INPUTS of THE WORLD its OUTCOME as an EXAMPLE: of 2")
    static void likeFirstInputsOfTwo() {
        DoFinder x = new DoFinder();
        Checks.routine(x, 2, 0);
        // 1 at -3, 3 alone; not 0 from -2 on for the first; not 0 unless one is -3.
        Checks.routine(x, 2, 11, 10, 13, 5, 13, 0, 17);
        Checks.routine(x, 2, 10, 3, 12);
        Checks.routine(x, 2, 10, 3, 12, 11, 3, 12, 14);
        due("6", x.like(0, 6), 6);
        due("-3, 3 is not among 6", x.misses(100), 0);
        due("7", x.like(0, 7), 7);
        due("-3, 3 is the seventh", x.misses(100), 1);
        due("-2 is not among 7", x.misses(200), 0);
        due("8", x.like(0, 8), 8);
        due("-2, -3 is the eighth", x.misses(200), 1);
        due("-2, -2 is not among 8", x.misses(300), 0);
        due("an ask of 2", x.many(9), 2);
    }

    @Checks.Says("like: .. its OUTCOME as an EXAMPLE (ANY where it is UNKNOWN)")
    static void likeOutcomes() {
        DoFinder x = two(1, endlessAt(-6), badAt(-6));
        Checks.routine(x, 1, oneAt(-6));
        Checks.routine(x, 1, 1);
        due("UNKNOWN at the first", x.like(0, 1), 1);
        due("all meet ANY", x.many(3), 4);
        due("it is an example", x.many(1), 1);
        due("the next one is number 1", x.leave(1, 0, true), 1);
        due("BAD at the first", x.like(1, 1), 1);
        due("one is BAD there", x.found(0), 100);
        due("one may be", x.open(0), 0);
        due("others miss", x.misses(200), 1);
        due("1 at the first", x.like(2, 1), 1);
        due("found", x.found(0), 200);
        due("found", x.found(1), 300);
        due("BAD misses", x.misses(100), 1);
        DoFinder endless = two(2, steps(1, 21), 5);
        due("UNKNOWN at all 8", endless.like(0, 8), 8);
        due("8 examples", endless.many(1), 8);
        due("no room for a ninth", endless.show(1, 1, 5), Checks.FULL);
        due("all meet ANY", endless.many(3), 4);
    }

    @Checks.Says("like: THE ASK becomes a ROUTINE's own: an ASK of as many ARGUMENTS")
    static void likeArguments() {
        DoFinder x = new DoFinder();
        Checks.routine(x, 1, 10);
        Checks.routine(x, 2, 10);
        due("of 2, without examples", x.like(1, 0), 0);
        due("of 2", x.many(9), 2);
        due("of 1, without examples", x.like(0, 0), 0);
        due("of 1", x.many(9), 1);
        for (int e = 0; e < 8; e++) {
            x.show(1, 1, 5);
        }
        due("none in place of 8", x.like(0, 0), 0);
        due("none", x.many(1), 0);
        due("8 of 2", x.like(1, 8), 8);
        due("8 of 1 in place of 8 of 2", x.like(0, 8), 8);
        due("8", x.many(1), 8);
        due("of 1", x.many(9), 1);
    }

    @Checks.Says("like: NUMBER: there is no such ROUTINE")
    static void likeNoRoutine() {
        for (int none : new int[] {MIN, -1, 12, MAX}) {
            Checks.refused("like(" + none + ", 3)", x -> x.like(none, 3), NUMBER);
            Checks.refused("like(" + none + ", 0)", x -> x.like(none, 0), NUMBER);
        }
        Checks.refused(Checks.State.NEW, "like(0, 0)", x -> x.like(0, 0), NUMBER);
        Checks.refused(Checks.State.SOME, "like(4, 0)", x -> x.like(4, 0), NUMBER);
        due("the last that is", Checks.State.SOME.make().like(3, 2), 2);
        due("the last of 12", Checks.State.ALL.make().like(11, 2), 2);
    }

    @Checks.Says("like: NUMBER: .. or n isn't 0 to 8")
    static void likeNumbers() {
        for (int none : new int[] {MIN, -1, 9, MAX}) {
            for (int r : new int[] {0, 1}) {
                Checks.refused("like(" + r + ", " + none + ")", x -> x.like(r, none), NUMBER);
            }
        }
        due("0", Checks.State.SOME.make().like(0, 0), 0);
        due("8", Checks.State.SOME.make().like(0, 8), 8);
    }

    // ---- parting

    private static void parts(DoFinder x, int a, int b, int most, int unlike) {
        due("parting(0)", x.parting(0), a);
        due("parting(1)", x.parting(1), b);
        due("parting(2)", x.parting(2), most);
        due("parting(3)", x.parting(3), unlike);
    }

    @Checks.Says("PARTING: of the INPUTS of THE WORLD (of as many ARGUMENTS as THE ASK): of 1, the first and the last")
    static void partingOfOne() {
        for (int number = -6; number <= 6; number++) {
            parts(two(1, steps(0), oneAt(number)), number, 0, 1, 2);
        }
        parts(two(1, steps(0), oneAt(-7)), -6, 0, 2, 1);
        parts(two(1, steps(0), oneAt(7)), -6, 0, 2, 1);
    }

    @Checks.Says("PARTING: of the INPUTS of THE WORLD (of as many ARGUMENTS as THE ASK): of 2, the first and the last")
    static void partingOfTwo() {
        DoFinder last = two(2, steps(10, 11, 12), 10, 11, 12, 5, 16);
        last.ask(2);
        parts(last, 3, 3, 2, 2);
        DoFinder first = two(2, steps(10, 11, 12), 10, 11, 12, 0, 5, 13, 17);
        first.ask(2);
        parts(first, -3, -3, 2, 2);
        DoFinder beyond = two(2, steps(10, 11, 12), 10, 11, 12, 6, 16);
        beyond.ask(2);
        parts(beyond, -3, -3, 4, 1);
        DoFinder row = two(2, steps(0), 11, 10, 13, 5, 13, 0, 17);
        row.ask(2);
        parts(row, -3, 3, 3, 2);
        DoFinder one = two(1, steps(0), oneAt(3));
        one.ask(2);
        parts(one, 3, 3, 2, 2);
        one.mend(1, 2, 4);
        parts(one, -3, -3, 4, 1);
    }

    @Checks.Says("PARTING: .. the greatest number of FOUND WAYS with the same OUTCOME is least, of several the first")
    static void partingOfSeveral() {
        DoFinder x = two(1, steps(0), oneAt(2));
        Checks.routine(x, 1, oneAt(4));
        parts(x, 2, 0, 2, 2);
        DoFinder y = two(1, steps(0), oneAt(4));
        Checks.routine(y, 1, oneAt(2));
        parts(y, 2, 0, 2, 2);
        DoFinder alone = new DoFinder();
        Checks.routine(alone, 1, 10);
        parts(alone, -6, 0, 1, 1);
        // More unlike outcomes don't count: at -6 there are 2 and 2, at 4 there are 2, 1 and 1.
        DoFinder z = two(1, oneAt(-6), oneAt(-6));
        Checks.routine(z, 1, oneAt(4));
        Checks.routine(z, 1, 10, 0, 17);
        parts(z, -6, 0, 2, 2);
    }

    @Checks.Says("PARTING .. BAD and UNKNOWN are OUTCOMES like ANSWERS, two BAD ones the same, two UNKNOWN ones, too")
    static void partingOutcomes() {
        DoFinder bad = two(1, badAt(3), 0, 10, 3, 13, 28, 0, 15, 18);
        parts(bad, -6, 0, 2, 1);
        Checks.routine(bad, 1, 0);
        parts(bad, 3, 0, 2, 2);
        DoFinder unknown = two(1, endlessAt(3), endlessAt(3));
        parts(unknown, -6, 0, 2, 1);
        Checks.routine(unknown, 1, badAt(3));
        parts(unknown, 3, 0, 2, 2);
        Checks.routine(unknown, 1, 0);
        parts(unknown, 3, 0, 2, 3);
    }

    @Checks.Says("PARTING: .. of FOUND WAYS .. (JOINTS aren't looked at.)")
    static void partingOfFoundWays() {
        DoFinder x = two(1, steps(0), oneAt(4));
        Checks.routine(x, 1, endlessAt(0));
        Checks.routine(x, 1, 5);
        x.show(0, 0, 0);
        due("joints are found as well", x.many(6) > 0 ? 1 : 0, 1);
        due("one is open", x.open(0), 200);
        due("one is near", x.near(0), 300);
        parts(x, 4, 0, 1, 2);
    }

    @Checks.Says("parting: -1000: another what")
    static void partingWhat() {
        for (int none : new int[] {MIN, -1000, -1, 4, MAX}) {
            Checks.refused("parting(" + none + ")", x -> x.parting(none), NO_PARTING);
        }
        DoFinder x = Checks.State.SOME.make();
        parts(x, -6, 0, 1, 1);
    }

    @Checks.Says("parting: -1000: .. or nothing is FOUND")
    static void partingOfNothing() {
        for (int what = 0; what <= 3; what++) {
            int asked = what;
            Checks.refused(Checks.State.NEW, "parting(" + what + ")", x -> x.parting(asked), NO_PARTING);
            Checks.refused(Checks.State.ALL, "parting(" + what + ")", x -> x.parting(asked), NO_PARTING);
        }
        DoFinder open = two(1, steps(1, 21), 1, 21);
        open.show(1, 0, 1);
        due("two are open", open.many(4), 2);
        due("nothing is found", open.parting(2), NO_PARTING);
        DoFinder joints = new DoFinder();
        Checks.routine(joints, 1, 10, 1, 12);
        joints.show(5, 0, 7);
        due("a joint is found", joints.many(6), 1);
        due("no way is", joints.parting(2), NO_PARTING);
        joints.drop();
        due("a way is", joints.parting(2), 1);
    }

    // ---- doubles

    @Checks.Says("same, differ: NUMBER: one is none")
    static void noneToCompare() {
        for (int none : new int[] {MIN, -1, 12, MAX}) {
            Checks.refused("same(" + none + ", 0)", x -> x.same(none, 0), NUMBER);
            Checks.refused("same(0, " + none + ")", x -> x.same(0, none), NUMBER);
            Checks.refused("same(" + none + " twice)", x -> x.same(none, none), NUMBER);
            Checks.refused("differ(" + none + ", 0)", x -> x.differ(none, 0), NUMBER);
            Checks.refused("differ(0, " + none + ")", x -> x.differ(0, none), NUMBER);
            Checks.refused("differ(" + none + " twice)", x -> x.differ(none, none), NUMBER);
        }
        Checks.refused(Checks.State.NEW, "same(0, 0)", x -> x.same(0, 0), NUMBER);
        Checks.refused(Checks.State.NEW, "differ(0, 0)", x -> x.differ(0, 0), NUMBER);
        Checks.refused(Checks.State.SOME, "same(3, 4)", x -> x.same(3, 4), NUMBER);
        Checks.refused(Checks.State.SOME, "differ(4, 3)", x -> x.differ(4, 3), NUMBER);
        due("the last that is", Checks.State.SOME.make().same(3, 0), 0);
        due("the last of 12", Checks.State.ALL.make().same(11, 1), 1);
        due("the last of 12", Checks.State.ALL.make().differ(1, 11), NONE);
    }

    @Checks.Says("same, differ: KIND")
    static void unlikeArguments() {
        Checks.refused(Checks.State.SOME, "same(0, 1)", x -> x.same(0, 1), KIND);
        Checks.refused(Checks.State.SOME, "same(1, 0)", x -> x.same(1, 0), KIND);
        Checks.refused(Checks.State.SOME, "differ(0, 1)", x -> x.differ(0, 1), KIND);
        Checks.refused(Checks.State.SOME, "differ(1, 0)", x -> x.differ(1, 0), KIND);
        Checks.refused(Checks.State.ALL, "same(11, 0)", x -> x.same(11, 0), KIND);
        Checks.refused(Checks.State.ALL, "differ(0, 11)", x -> x.differ(0, 11), KIND);
    }

    @Checks.Says("same, differ: of several refusals the first one named: NUMBER, KIND, NONE")
    static void orderOfDoubles() {
        DoFinder x = new DoFinder();
        Checks.routine(x, 1, 5);
        Checks.routine(x, 2, 5);
        Checks.routine(x, 2, 1, 21);
        for (int none : new int[] {-1, 3}) {
            for (int r = 0; r < 3; r++) {
                due("NUMBER and KIND", x.same(r, none), NUMBER);
                due("NUMBER and KIND", x.same(none, r), NUMBER);
                due("NUMBER and KIND", x.differ(r, none), NUMBER);
                due("NUMBER and KIND", x.differ(none, r), NUMBER);
            }
        }
        due("KIND and NONE", x.differ(0, 1), KIND);
        due("KIND, though the answers are the same", x.same(0, 1), KIND);
        due("KIND, though one is UNKNOWN", x.same(0, 2), KIND);
        due("KIND, though one is UNKNOWN", x.differ(2, 0), KIND);
    }

    @Checks.Says("differ: NONE: they are DOUBLES")
    static void differNone() {
        Checks.refused(Checks.State.SOME, "differ(0, 0)", x -> x.differ(0, 0), NONE);
        Checks.refused(Checks.State.ALL, "differ(1, 11)", x -> x.differ(1, 11), NONE);
        DoFinder x = two(1, steps(10), 1, 21);
        due("itself", x.differ(0, 0), NONE);
        due("itself", x.same(0, 0), 1);
        due("itself, UNKNOWN", x.differ(1, 1), 0);
        due("itself, UNKNOWN", x.same(1, 1), 0);
    }

    @Checks.Says("first: The least ROUTINE of which one is a DOUBLE, or itself")
    static void firstOfMany() {
        DoFinder x = new DoFinder();
        Checks.routine(x, 2, 5);
        for (int r = 1; r < 12; r++) {
            Checks.routine(x, 1, r == 6 ? 4 : 5);
        }
        due("itself, the first one", x.first(0), 0);
        due("itself, though it has doubles behind it", x.first(1), 1);
        due("the least of several", x.first(5), 1);
        due("itself, another answer", x.first(6), 6);
        due("the last of 12", x.first(11), 1);
        x.mend(1, 0, 3);
        due("the next one", x.first(11), 2);
        due("itself now", x.first(2), 2);
    }

    @Checks.Says("first: (if it has UNKNOWN OUTCOMES in THE WORLD, itself)")
    static void firstOfUnknown() {
        for (int number : new int[] {-6, 6}) {
            due("UNKNOWN at " + number, two(1, endlessAt(number), endlessAt(number)).first(1), 1);
        }
        for (int number : new int[] {-7, 7}) {
            due("UNKNOWN at " + number, two(1, endlessAt(number), endlessAt(number)).first(1), 0);
        }
        due("UNKNOWN everywhere", two(2, steps(1, 21), 1, 21).first(1), 1);
    }

    @Checks.Says("first: NUMBER: there is none such")
    static void firstNumber() {
        for (int none : new int[] {MIN, -1, 12, MAX}) {
            Checks.refused("first(" + none + ")", x -> x.first(none), NUMBER);
        }
        Checks.refused(Checks.State.NEW, "first(0)", x -> x.first(0), NUMBER);
        Checks.refused(Checks.State.SOME, "first(4)", x -> x.first(4), NUMBER);
        due("the last that is", Checks.State.SOME.make().first(3), 3);
    }

    public static void main(String[] args) {
        Checks.runAll(WorldEdgesTest.class);
    }
}
