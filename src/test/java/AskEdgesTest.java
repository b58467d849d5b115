// The edges of Terms 2, what a way or joint is, and of promises 10 to 13 and 15: the ask, its examples, and would.
public final class AskEdgesTest {
    private static final int NUMBER = Checks.NUMBER;
    private static final int FULL = Checks.FULL;
    private static final int NONE = Checks.NONE;
    private static final long BAD = Checks.BAD;
    private static final long UNKNOWN = Checks.UNKNOWN;
    private static final long NOTHING = Checks.NOTHING;
    private static final int MIN = Checks.MIN;
    private static final int MAX = Checks.MAX;

    private static void due(String call, long got, long want) {
        Checks.due(call, got, want);
    }

    /** Routine 0 of 1 is twice, routine 1 of 2 is the first less the second one. */
    private static DoFinder twiceAndLess(int arguments) {
        DoFinder x = new DoFinder();
        Checks.routine(x, 1, 10, 2, 14);
        Checks.routine(x, 2, 10, 11, 13);
        x.ask(arguments);
        return x;
    }

    private static void isNone(DoFinder x, int number) {
        due("would(" + number + ")", x.would(number, 5, 3), NOTHING);
        due("misses(" + number + ")", x.misses(number), NUMBER);
    }

    private static void is(DoFinder x, int number, int a, int b, long outcome) {
        due("would(" + number + ", " + a + ", " + b + ")", x.would(number, a, b), outcome);
        due("misses(" + number + ")", x.misses(number), 0);
    }

    // ---- terms: the ask and its examples

    @Checks.Says("THE ASK has 1 or 2 ARGUMENTS")
    static void oneOrTwoArguments() {
        DoFinder x = new DoFinder();
        due("at first", x.many(9), 1);
        x.ask(2);
        due("2", x.many(9), 2);
        x.ask(3);
        due("not 3", x.many(9), 2);
        x.ask(1);
        due("1", x.many(9), 1);
        x.ask(0);
        due("not 0", x.many(9), 1);
    }

    @Checks.Says("EXAMPLES, 8 at most: by show")
    static void eightShown() {
        DoFinder x = twiceAndLess(2);
        for (int e = 0; e < 8; e++) {
            due("show number " + e, x.show(e, 0, e), e);
        }
        due("the ninth", x.show(8, 0, 8), FULL);
        due("the ninth by leave", x.leave(8, 0, true), FULL);
        due("how many", x.many(1), 8);
        due("all 8 count", x.misses(100), 0);
        due("the last one is dropped", x.drop(), 7);
        due("another one in its place", x.show(7, 0, 8), 7);
        due("it counts", x.misses(100), 1);
        due("and it is full again", x.show(7, 0, 8), FULL);
    }

    @Checks.Says("EXAMPLES, 8 at most: by leave")
    static void eightLeft() {
        DoFinder x = twiceAndLess(1);
        for (int e = 0; e < 8; e++) {
            due("leave number " + e, x.leave(e, 0, false), e);
        }
        due("all 8 count", x.misses(0), 8);
        due("the ninth", x.leave(8, 0, false), FULL);
        due("the ninth, any", x.leave(8, 0, true), FULL);
        due("the ninth by show", x.show(8, 0, 16), FULL);
        due("still 8", x.misses(0), 8);
        due("a new ask", x.ask(1), 8);
        due("has room", x.leave(8, 0, false), 0);
    }

    @Checks.Says("EXAMPLES, 8 at most: by like")
    static void eightByLike() {
        DoFinder x = twiceAndLess(1);
        due("8", x.like(0, 8), 8);
        due("the ninth by show", x.show(8, 0, 16), FULL);
        due("the ninth by leave", x.leave(8, 0, false), FULL);
        due("8 again, in place of the old ones", x.like(1, 8), 8);
        due("how many", x.many(1), 8);
        due("7", x.like(0, 7), 7);
        due("the eighth by show", x.show(8, 0, 16), 7);
        due("the ninth by show", x.show(9, 0, 18), FULL);
    }

    @Checks.Says("(of an ASK of 1 the second number is 0, always)")
    static void secondNumberOfAnAskOfOne() {
        DoFinder x = twiceAndLess(1);
        for (int b : new int[] {MIN, -1, 0, 1, MAX}) {
            is(x, 0, 5, b, 10);
            is(x, 113, 5, b, -2);
            is(x, 123, 5, b, 2);
            is(x, 10123, 5, b, 4);
            x.show(5, b, 10);
            due("met with " + b, x.found(0), 0);
            x.drop();
        }
    }

    @Checks.Says("what is DUE: an ANSWER, BAD, or ANY")
    static void whatIsDue() {
        DoFinder x = new DoFinder();
        Checks.routine(x, 1, 10);
        Checks.routine(x, 1, 20, 0);
        Checks.routine(x, 1, 1, 21);
        for (int far : new int[] {MIN, -1, 0, 1, MAX}) {
            x.ask(1);
            x.show(far, 0, far);
            due("the answer " + far, x.misses(0), 0);
            due("BAD is not the answer " + far, x.misses(100), 1);
            due("UNKNOWN may be the answer " + far, x.open(0), 200);
            due("one of them is found", x.many(3), 1);
        }
        x.ask(1);
        x.leave(0, 0, false);
        due("0 is not BAD", x.misses(0), 1);
        due("BAD is", x.found(0), 100);
        due("UNKNOWN may be", x.open(0), 200);
        x.ask(1);
        x.leave(0, 0, true);
        due("all are ANY", x.many(3), 3);
        due("none is open", x.many(4), 0);
        due("none misses", x.near(0), NONE);
    }

    // ---- terms: ways

    @Checks.Says("how .. For an ASK of 1 how is 0 for a ROUTINE of 1")
    static void howOfOneForOne() {
        DoFinder x = twiceAndLess(1);
        is(x, 0, 5, 3, 10);
        for (int how : new int[] {1, 2, 9, 10, 11, 19, 20, 29, 30, 99}) {
            isNone(x, how);
        }
        isNone(x, -1);
    }

    @Checks.Says("10 to 19 (a ROUTINE of 2): the first one is how less 10, the second one the ASK's first")
    static void numberPutInFirst() {
        DoFinder x = twiceAndLess(1);
        isNone(x, 109);
        for (int n = 0; n <= 9; n++) {
            is(x, 110 + n, 5, 3, n - 5);
        }
        is(x, 110, MIN, 0, MIN);
        is(x, 119, MIN, 0, MIN + 9);
    }

    @Checks.Says("20 to 29 (likewise): the first one is the ASK's first, the second one how less 20")
    static void numberPutInSecond() {
        DoFinder x = twiceAndLess(1);
        for (int n = 0; n <= 9; n++) {
            is(x, 120 + n, 5, 3, 5 - n);
        }
        isNone(x, 130);
        is(x, 121, MIN, 0, MAX);
    }

    @Checks.Says("For an ASK of 1 how is .. 10 to 29 for one of 2")
    static void howOfOneForTwo() {
        DoFinder x = twiceAndLess(1);
        for (int how : new int[] {0, 1, 2, 9, 30, 31, 39, 99}) {
            isNone(x, 100 + how);
        }
        due("1 and 20 ways", x.many(2), 21);
    }

    @Checks.Says("for an ASK of 2 how is 0 or 1, for any: a ROUTINE of 2")
    static void howOfTwoForTwo() {
        DoFinder x = twiceAndLess(2);
        is(x, 100, 5, 3, 2);
        is(x, 101, 5, 3, -2);
        is(x, 100, MIN, 1, MAX);
        is(x, 101, 1, MIN, MAX);
        for (int how : new int[] {2, 9, 10, 19, 20, 29, 30, 99}) {
            isNone(x, 100 + how);
        }
    }

    @Checks.Says("for an ASK of 2 how is 0 or 1, for any: a ROUTINE of 1")
    static void howOfTwoForOne() {
        DoFinder x = twiceAndLess(2);
        is(x, 0, 5, 3, 10);
        is(x, 1, 5, 3, 6);
        isNone(x, -1);
        for (int how : new int[] {2, 9, 10, 19, 20, 29, 30, 99}) {
            isNone(x, how);
        }
        due("2 ways of each", x.many(2), 4);
    }

    @Checks.Says("A WAY to use ROUTINE r for THE ASK is told by a number 100 r and how: which r there are")
    static void routinesOfWays() {
        DoFinder none = new DoFinder();
        isNone(none, 0);
        DoFinder x = twiceAndLess(2);
        is(x, 100, 5, 3, 2);
        isNone(x, 200);
        isNone(x, 201);
        for (int below : new int[] {-1, -2, -99, -100, -101, -10000, -9999, -10100, -20000, MIN, MIN + 48}) {
            isNone(x, below);
        }
        DoFinder all = Checks.State.ALL.make();
        due("the last way of 12", all.would(1101, 5, 3), 8);
        due("none behind it", all.would(1102, 5, 3), NOTHING);
        for (int number : new int[] {1200, 1201, 1300, 9900, 9999}) {
            due("would(" + number + ")", all.would(number, 5, 3), NOTHING);
            due("misses(" + number + ")", all.misses(number), NUMBER);
        }
    }

    // ---- terms: joints

    @Checks.Says("A JOINT is told as 10000 (s + 1) and w: which there are")
    static void numbersOfJoints() {
        DoFinder x = twiceAndLess(1);
        is(x, 10000, 5, 3, 20);
        is(x, 10110, 5, 3, -10);
        is(x, 10129, 5, 3, -8);
        for (int number : new int[] {9999, 10001, 10109, 10130, 10200, 10100, 19999, MAX}) {
            isNone(x, number);
        }
        DoFinder all = Checks.State.ALL.make();
        due("the first one", all.would(10000, 5, 3), 5);
        due("behind routine 8, the last way", all.would(91101, 5, 3), 12);
        due("behind routine 10", all.would(110000, 5, 3), UNKNOWN);
        due("behind routine 10, the last way", all.would(111101, -5, 5), 1);
        for (int number : new int[] {111102, 111200, 119999, 120000, 130000, 130001, 1000000, 2147480000, MAX}) {
            due("would(" + number + ")", all.would(number, 5, 3), NOTHING);
            due("misses(" + number + ")", all.misses(number), NUMBER);
        }
    }

    @Checks.Says("A JOINT is a WAY w and a ROUTINE s of 1 ARGUMENT behind it")
    static void behindIsOfOne() {
        for (int arguments = 1; arguments <= 2; arguments++) {
            DoFinder x = twiceAndLess(arguments);
            is(x, 10000, 5, 3, 20);
            isNone(x, 20000);
            isNone(x, arguments == 1 ? 20110 : 20100);
            isNone(x, 30000);
            due("as many as ways", x.many(5), x.many(2));
        }
        DoFinder two = twiceAndLess(2);
        is(two, 10001, 5, 3, 12);
        is(two, 10101, 5, 3, -4);
        isNone(two, 10002);
        isNone(two, 10102);
        isNone(two, 10110);
    }

    @Checks.Says("s is RUN with the ANSWER of the WAY")
    static void theAnswerGoesOn() {
        DoFinder x = new DoFinder();
        Checks.routine(x, 1, 10);
        Checks.routine(x, 1, 10, 1, 12);
        for (int far : new int[] {MIN, -1, 0, 1, MAX}) {
            is(x, 10000, far, 0, far);
            is(x, 20000, far, 0, far + 1);
            is(x, 20100, far, 0, far + 2);
        }
    }

    /**
     * Down to 0 and then 9, in 4 + 4 a steps; down to 0 in 23 + 4 a; BAD; for ever; 1 divided by it; 6 in 4 steps;
     * 9 in 1.
     */
    private static DoFinder burners() {
        DoFinder x = new DoFinder();
        Checks.routine(x, 1, 10, 1, 13, 18, 22, 3, 7, 9);
        Checks.routine(x, 1, 10, 5, 12, 1, 13, 18, 24);
        Checks.routine(x, 1, 12);
        Checks.routine(x, 1, 1, 21);
        Checks.routine(x, 1, 1, 10, 15);
        Checks.routine(x, 1, 1, 2, 3, 14);
        Checks.routine(x, 1, 9);
        return x;
    }

    @Checks.Says("(FUEL for each)")
    static void fuelForEach() {
        DoFinder x = burners();
        due("60 steps of the first, that answers 9", x.fuel(0, 14, 0), 60);
        due("59 steps of the second for 9", x.fuel(1, 9, 0), 59);
        due("60 of 60 and 59 of 60", x.would(20000, 14, 0), 0);
        x.limit(59);
        due("60 of 59", x.would(20000, 14, 0), UNKNOWN);
        due("1 of 59 and 59 of 59", x.would(20600, 14, 0), 0);
        x.limit(58);
        due("1 of 58 and 59 of 58", x.would(20600, 14, 0), UNKNOWN);
        x.limit(4);
        due("4 of 4 and 4 of 4", x.would(60500, 0, 0), 6);
        x.limit(3);
        due("3 of 3 and 3 of 3", x.would(50400, 1, 0), 1);
        due("3 of 3 and 4 of 3", x.would(60400, 1, 0), UNKNOWN);
        x.limit(2);
        due("3 of 2", x.would(50400, 1, 0), UNKNOWN);
        x.limit(1);
        due("1 of 1 and 1 of 1", x.would(70600, 1, 0), 9);
    }

    @Checks.Says("BAD or UNKNOWN of the first is that of both")
    static void badOrUnknownOfTheFirst() {
        DoFinder x = burners();
        for (int s : new int[] {0, 2, 3, 4, 6}) {
            due("BAD, behind it " + s, x.would(10000 * (s + 1) + 200, 5, 0), BAD);
            due("UNKNOWN, behind it " + s, x.would(10000 * (s + 1) + 300, 5, 0), UNKNOWN);
        }
        due("BAD of the second", x.would(30600, 5, 0), BAD);
        due("UNKNOWN of the second", x.would(40600, 5, 0), UNKNOWN);
        due("BAD of the second for 0", x.would(50400, 5, 0), BAD);
        due("none of either", x.would(50600, 5, 0), 0);
    }

    // ---- promises 10 to 13 and 15

    @Checks.Says("ask: A new ASK, without EXAMPLES: how many EXAMPLES the old one had. NUMBER: arguments isn't 1 or 2.")
    static void askEdges() {
        for (int none : new int[] {MIN, -1, 0, 3, MAX}) {
            Checks.refused("ask(" + none + ")", x -> x.ask(none), NUMBER);
        }
        DoFinder x = Checks.State.ALL.make();
        due("8", x.ask(2), 8);
        due("none", x.many(1), 0);
        due("0", x.ask(1), 0);
        due("of 1", x.many(9), 1);
        x.leave(1, 1, true);
        due("1", x.ask(1), 1);
        due("no example to drop", x.drop(), NONE);
        due("the routines stay", x.many(0), 12);
        due("the steps stay", x.many(8), 12);
        due("FUEL stays", x.limit(60), 200);
    }

    @Checks.Says("show: An EXAMPLE comes, with an ANSWER that is DUE: its number. FULL.")
    static void showFull() {
        DoFinder x = new DoFinder();
        for (int e = 0; e < 8; e++) {
            due("number " + e, x.show(MIN, MAX, MIN), e);
        }
        for (int n : new int[] {MIN, 0, MAX}) {
            Checks.refused(Checks.State.ALL, "show(" + n + ", ..)", y -> y.show(n, n, n), FULL);
        }
    }

    @Checks.Says("show: (Of an ASK of 1 b is taken as 0.)")
    static void showOfOne() {
        DoFinder x = twiceAndLess(1);
        x.show(5, 4, 10);
        due("met as with 0", x.misses(0), 0);
        due("5 - 5 isn't 10", x.misses(125), 1);
        x.ask(2);
        x.show(5, 4, 1);
        due("of an ask of 2 b counts", x.misses(100), 0);
        due("of an ask of 2 b counts", x.misses(101), 1);
    }

    @Checks.Says("leave: An EXAMPLE comes, with BAD that is DUE, or (any) ANY: its number. FULL.")
    static void leaveFull() {
        DoFinder x = new DoFinder();
        for (int e = 0; e < 8; e++) {
            due("number " + e, x.leave(MIN, MAX, e % 2 == 0), e);
        }
        Checks.refused(Checks.State.ALL, "leave(0, 0, true)", y -> y.leave(0, 0, true), FULL);
        Checks.refused(Checks.State.ALL, "leave(0, 0, false)", y -> y.leave(0, 0, false), FULL);
        Checks.refused(Checks.State.ALL, "leave(MIN, MAX, false)", y -> y.leave(MIN, MAX, false), FULL);
    }

    @Checks.Says("drop: The latest EXAMPLE is no more: how many there are. NONE: there are none.")
    static void dropEdges() {
        Checks.refused(Checks.State.NEW, "drop()", x -> x.drop(), NONE);
        DoFinder x = Checks.State.ALL.make();
        for (int left = 7; left >= 0; left--) {
            due("drop to " + left, x.drop(), left);
            due("how many", x.many(1), left);
        }
        due("none", x.drop(), NONE);
        due("none still", x.drop(), NONE);
        due("0, not fewer", x.many(1), 0);
        due("the next is number 0", x.show(1, 1, 2), 0);
        due("it counts", x.misses(100), 0);
        due("it counts", x.misses(0), 1);
        due("of 2 still", x.many(9), 2);
    }

    @Checks.Says("would: The OUTCOME of a WAY or JOINT for an INPUT of THE ASK. NOTHING: it is none.")
    static void wouldNothing() {
        for (int none : new int[] {MIN, -100, -1, 2, 9, 30, 99, 9999, 130000, MAX}) {
            Checks.refused("would(" + none + ", 1, 1)", x -> x.would(none, 1, 1), NOTHING);
        }
        Checks.refused(Checks.State.NEW, "would(0, 1, 1)", x -> x.would(0, 1, 1), NOTHING);
        Checks.refused(Checks.State.NEW, "would(10000, 1, 1)", x -> x.would(10000, 1, 1), NOTHING);
        Checks.refused(Checks.State.SOME, "would(400, 1, 1)", x -> x.would(400, 1, 1), NOTHING);
        Checks.refused(Checks.State.SOME, "would(20000, 1, 1)", x -> x.would(20000, 1, 1), NOTHING);
        Checks.refused(Checks.State.SOME, "would(50000, 1, 1)", x -> x.would(50000, 1, 1), NOTHING);
        Checks.refused(Checks.State.ALL, "would(1200, 1, 1)", x -> x.would(1200, 1, 1), NOTHING);
        Checks.refused(Checks.State.ALL, "would(120000, 1, 1)", x -> x.would(120000, 1, 1), NOTHING);
    }

    public static void main(String[] args) {
        Checks.runAll(AskEdgesTest.class);
    }
}
