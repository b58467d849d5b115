// The edges of Terms 1 and of promises 1 to 9: steps, routines, the pile, and fuel.
public final class RoutineEdgesTest {
    private static final int NUMBER = Checks.NUMBER;
    private static final int FULL = Checks.FULL;
    private static final int NONE = Checks.NONE;
    private static final int KIND = Checks.KIND;
    private static final long BAD = Checks.BAD;
    private static final long UNKNOWN = Checks.UNKNOWN;
    private static final long NOTHING = Checks.NOTHING;
    private static final int MIN = Checks.MIN;
    private static final int MAX = Checks.MAX;

    /** Eight on the pile. */
    private static final int[] EIGHT = {1, 2, 3, 4, 5, 6, 7, 8};
    /** Down to 0 from its argument, which is above 0: 1 + 4 a steps. */
    private static final int[] DOWN = {10, 1, 13, 18, 22};

    private static void due(String call, long got, long want) {
        Checks.due(call, got, want);
    }

    private static long ran(int a, int b, int... steps) {
        return Checks.ran(a, b, steps);
    }

    /** Filled up with zeros, so that each step that one may go on with is there. */
    private static int[] twelveFrom(int... steps) {
        int[] all = new int[12];
        System.arraycopy(steps, 0, all, 0, steps.length);
        return all;
    }

    private static DoFinder holding(int arguments, int... steps) {
        DoFinder x = new DoFinder();
        Checks.routine(x, arguments, steps);
        return x;
    }

    /** So many, each of one step, even ones of 1, odd ones of 2. */
    private static DoFinder withRoutines(int count) {
        DoFinder x = new DoFinder();
        for (int r = 0; r < count; r++) {
            Checks.routine(x, 1 + r % 2, 10);
        }
        return x;
    }

    // ---- terms: routines and steps

    @Checks.Says("ROUTINES are numbered from 0 as they come, 12 at most")
    static void twelveRoutines() {
        DoFinder x = new DoFinder();
        for (int r = 0; r < 12; r++) {
            x.step(r % 10);
            due("add number " + r, x.add(1), r);
        }
        due("the first one", x.run(0, 7, 7), 0);
        due("the last one", x.run(11, 7, 7), 1);
        due("none behind it", x.run(12, 7, 7), NOTHING);
        x.step(5);
        due("the 13th", x.add(1), FULL);
        due("the 13th once more", x.add(2), FULL);
        due("how many", x.many(0), 12);
    }

    @Checks.Says("each takes 1 or 2 ARGUMENTS")
    static void oneOrTwoArguments() {
        due("1", holding(1, 10).of(0, 0), 1);
        due("2", holding(2, 10).of(0, 0), 2);
        for (int other : new int[] {0, 3}) {
            due("none of " + other, holding(other, 10).many(0), 0);
        }
    }

    @Checks.Says("and has STEPS, 1 to 12")
    static void oneToTwelveSteps() {
        due("one of none", new DoFinder().add(1), NONE);
        due("of 1", holding(1, 9).of(0, 1), 1);
        due("it runs", holding(1, 9).run(0, 0, 0), 9);
        int[] twelve = {0, 1, 12, 1, 12, 1, 12, 1, 12, 1, 12, 8};
        due("of 12", holding(1, twelve).of(0, 1), 12);
        due("it runs to its last one", holding(1, twelve).run(0, 0, 0), 8);
        due("all 12 are done", holding(1, twelve).fuel(0, 0, 0), 12);
        DoFinder x = new DoFinder();
        Checks.write(x, Checks.join(twelve, 3));
        x.add(1);
        due("a 13th isn't there", x.of(0, 1), 12);
    }

    @Checks.Says("0 to 9 that number is laid on the PILE")
    static void theNumbers() {
        due("the first one", ran(-5, -6, 0), 0);
        due("the last one", ran(-5, -6, 9), 9);
    }

    @Checks.Says("10 ARGUMENT 0 is laid on it, 11 ARGUMENT 1")
    static void theArguments() {
        for (int far : new int[] {MIN, -1, 0, 1, MAX}) {
            due("argument 0", ran(far, 5, 10), far);
            due("argument 1", ran(5, far, 11), far);
        }
    }

    @Checks.Says("12 A + B .. All are ints, that go round")
    static void plusGoesRound() {
        due("the greatest and 1", ran(MAX, 1, 10, 11, 12), MIN);
        due("the greatest and 0", ran(MAX, 0, 10, 11, 12), MAX);
        due("the least and -1", ran(MIN, -1, 10, 11, 12), MAX);
        due("twice the least", ran(MIN, MIN, 10, 11, 12), 0);
        due("twice the greatest", ran(MAX, MAX, 10, 11, 12), -2);
        due("and goes on from there", ran(MAX, 1, 10, 11, 12, 1, 13), MAX);
    }

    @Checks.Says("13 A - B .. All are ints, that go round")
    static void minusGoesRound() {
        due("the least less 1", ran(MIN, 1, 10, 11, 13), MAX);
        due("the greatest less -1", ran(MAX, -1, 10, 11, 13), MIN);
        due("0 less the least", ran(0, MIN, 10, 11, 13), MIN);
        due("0 less the greatest", ran(0, MAX, 10, 11, 13), MIN + 1);
        due("-1 less the least", ran(-1, MIN, 10, 11, 13), MAX);
    }

    @Checks.Says("14 A B .. All are ints, that go round")
    static void timesGoesRound() {
        due("the least times -1", ran(MIN, -1, 10, 11, 14), MIN);
        due("the greatest twice", ran(MAX, 2, 10, 11, 14), -2);
        due("the greatest by itself", ran(MAX, MAX, 10, 11, 14), 1);
        due("the least by itself", ran(MIN, MIN, 10, 11, 14), 0);
        due("the last square that doesn't", ran(46340, 46340, 10, 11, 14), 2147395600);
        due("the first square that does", ran(46341, 46341, 10, 11, 14), -2147479015);
        due("2 to the 32nd", ran(65536, 65536, 10, 11, 14), 0);
    }

    @Checks.Says("15 A / B (cut towards 0) .. All are ints, that go round")
    static void divisionIsCutAndGoesRound() {
        int[][] cut = {{7, 2, 3}, {-7, 2, -3}, {7, -2, -3}, {-7, -2, 3}, {1, 2, 0}, {-1, 2, 0}, {1, -2, 0}, {0, 5, 0},
            {0, -5, 0}, {6, 3, 2}, {-6, 3, -2}, {5, 3, 1}, {-5, 3, -1}};
        for (int[] row : cut) {
            due(row[0] + " / " + row[1], ran(row[0], row[1], 10, 11, 15), row[2]);
        }
        due("the least by -1 goes round", ran(MIN, -1, 10, 11, 15), MIN);
        due("the greatest by -1", ran(MAX, -1, 10, 11, 15), MIN + 1);
        due("the least by 1", ran(MIN, 1, 10, 11, 15), MIN);
        due("the least by itself", ran(MIN, MIN, 10, 11, 15), 1);
        due("the least by the greatest", ran(MIN, MAX, 10, 11, 15), -1);
        due("the greatest by the least", ran(MAX, MIN, 10, 11, 15), 0);
    }

    @Checks.Says("16 in place of A and B the lesser, 17 the greater one")
    static void lesserAndGreater() {
        int[][] pairs = {{4, 4, 4, 4}, {-1, 0, -1, 0}, {0, -1, -1, 0}, {MIN, MAX, MIN, MAX}, {MAX, MIN, MIN, MAX},
            {MIN, 1, MIN, 1}, {MAX, -2, -2, MAX}, {MIN, MIN, MIN, MIN}, {MAX, MAX, MAX, MAX}, {3, 4, 3, 4}};
        for (int[] row : pairs) {
            due("16 of " + row[0] + ", " + row[1], ran(row[0], row[1], 10, 11, 16), row[2]);
            due("17 of " + row[0] + ", " + row[1], ran(row[0], row[1], 10, 11, 17), row[3]);
        }
        due("16 in place of both", ran(3, 4, 7, 10, 11, 16, 20), 7);
        due("17 in place of both", ran(3, 4, 7, 10, 11, 17, 20), 7);
    }

    @Checks.Says("18: what is on top is laid on it once more")
    static void onceMore() {
        due("of one", ran(5, 6, 10, 18, 12), 10);
        due("the pile is one higher", ran(5, 6, 10, 18, 20), 5);
        due("from 7 to 8", ran(5, 6, 1, 2, 3, 4, 5, 6, 7, 18), 7);
    }

    @Checks.Says("19: the two on top change places")
    static void changePlaces() {
        due("of two", ran(5, 6, 10, 11, 19), 5);
        due("the one below", ran(5, 6, 10, 11, 19, 20), 6);
        due("the third one stays", ran(5, 6, 9, 10, 11, 19, 20, 20), 9);
        due("of 8", ran(5, 6, Checks.join(EIGHT, 19)), 7);
        due("of 8, the one below", ran(5, 6, Checks.join(EIGHT, 19, 20)), 8);
    }

    @Checks.Says("20: what is on top is taken off")
    static void takenOff() {
        due("of two", ran(5, 6, 10, 11, 20), 5);
        due("of 8", ran(5, 6, Checks.join(EIGHT, 20)), 7);
        due("there is room again", ran(5, 6, Checks.join(EIGHT, 20, 9)), 9);
    }

    @Checks.Says("21 to 32: what is on top is taken off; if it isn't 0 it goes on with STEP number (that less 21)")
    static void goesOnElsewhere() {
        // Step 3 is left out, or else lays 8.
        int[] over = {7, 10, 25, 8, 18};
        for (int other : new int[] {MIN, -1, 1, 2, MAX}) {
            due("for " + other, ran(other, 0, over), 7);
            due("steps for " + other, Checks.burnt(other, 0, over), 4);
        }
        due("for 0 with the next one", ran(0, 0, over), 8);
        due("steps for 0", Checks.burnt(0, 0, over), 5);
        due("it is taken off if it goes on elsewhere", ran(5, 0, 7, 10, 25, 8, 20), BAD);
        due("it is taken off if not", ran(0, 0, 7, 10, 23), 7);
    }

    @Checks.Says("21 to 32: .. STEP number (that less 21): the first STEP there can be, and the last one")
    static void goesOnWithTheFirstOrTheLast() {
        // From step 0 each round leaves one more: in the eighth the second one laid is the ninth.
        due("21 goes on with step 0", ran(5, 0, 10, 10, 21), BAD);
        due("21: so many steps", Checks.burnt(5, 0, 10, 10, 21), 23);
        due("22 goes on with step 1", ran(5, 0, 10, 10, 22), UNKNOWN);
        int[] last = {9, 10, 32, 1, 20, 1, 20, 1, 20, 1, 20, 18};
        due("32 goes on with step 11", ran(5, 0, last), 9);
        due("32: so many steps", Checks.burnt(5, 0, last), 4);
        due("32 for 0", Checks.burnt(0, 0, last), 12);
        int[] before = {9, 10, 31, 1, 20, 1, 20, 1, 20, 1, 20, 18};
        due("31 goes on with step 10", Checks.burnt(5, 0, before), 5);
        due("31 goes on with step 10, which takes the 9 off", ran(5, 0, before), BAD);
    }

    @Checks.Says("21 to 32: .. else with the next one, though there is none")
    static void goesOnBehindTheLast() {
        due("the last step, for 0", ran(0, 0, 7, 10, 21), 7);
        due("so many steps", Checks.burnt(0, 0, 7, 10, 21), 3);
        due("the last step goes on with itself", ran(5, 0, 7, 0, 10, 24), 7);
        due("so many steps", Checks.burnt(5, 0, 7, 0, 10, 24), 5);
    }

    // ---- terms: to run one

    @Checks.Says("To RUN one: from STEP 0 on, the PILE empty")
    static void thePileIsEmptyAtFirst() {
        DoFinder x = new DoFinder();
        Checks.routine(x, 1, EIGHT);
        Checks.routine(x, 1, 12, 5);
        Checks.routine(x, 1, Checks.join(EIGHT, 9));
        Checks.routine(x, 1, 1, 2, 1, 23);
        due("8 stay on the pile", x.run(0, 0, 0), 8);
        due("none of them is there", x.run(1, 0, 0), BAD);
        due("8 again", x.run(0, 0, 0), 8);
        due("one that is BAD", x.run(2, 0, 0), BAD);
        due("8 behind a BAD one", x.run(0, 0, 0), 8);
        due("one that is UNKNOWN", x.run(3, 0, 0), UNKNOWN);
        due("none of its numbers is there", x.run(1, 0, 0), BAD);
        due("8 behind an UNKNOWN one", x.run(0, 0, 0), 8);
    }

    @Checks.Says("its ANSWER is what is on top behind the last STEP")
    static void theAnswerIsOnTop() {
        due("one alone", ran(5, 6, 4), 4);
        due("of two", ran(5, 6, 4, 3), 3);
        due("of 8", ran(5, 6, EIGHT), 8);
    }

    @Checks.Says("It is BAD if a STEP needs more than there is on the PILE: two")
    static void stepsThatNeedTwo() {
        for (int step : new int[] {12, 13, 14, 15, 16, 17, 19}) {
            due(step + " with none", ran(5, 6, step, 1), BAD);
            due(step + " with none: at once", Checks.burnt(5, 6, step, 1), 1);
            due(step + " with one", ran(5, 6, 1, step, 1), BAD);
            due(step + " with one: steps", Checks.burnt(5, 6, 1, step, 1), 2);
            due(step + " with two", ran(5, 6, 1, 1, step, 7), 7);
        }
    }

    @Checks.Says("It is BAD if a STEP needs more than there is on the PILE: one")
    static void stepsThatNeedOne() {
        for (int step = 18; step <= 32; step++) {
            if (step != 19) {
                int[] none = twelveFrom(step);
                int[] one = {0, step, 7, 20, 7, 20, 7, 20, 7, 20, 7, 9};
                due(step + " with none", ran(5, 6, none), BAD);
                due(step + " with none: at once", Checks.burnt(5, 6, none), 1);
                due(step + " with one, a 0", ran(5, 6, one), 9);
                due(step + " with one: to the end", Checks.burnt(5, 6, one), 12);
            }
        }
    }

    @Checks.Says("BAD if .. it would have more than 8")
    static void nineOnThePile() {
        due("8", ran(5, 6, EIGHT), 8);
        due("8 by argument 0", ran(5, 6, 1, 2, 3, 4, 5, 6, 7, 10), 5);
        due("8 by argument 1", ran(5, 6, 1, 2, 3, 4, 5, 6, 7, 11), 6);
        due("8 by 18", ran(5, 6, 1, 2, 3, 4, 5, 6, 7, 18), 7);
        for (int step : new int[] {0, 1, 9, 10, 11, 18}) {
            due("9 by " + step, ran(5, 6, Checks.join(EIGHT, step)), BAD);
            due("9 by " + step + ": at that step", Checks.burnt(5, 6, Checks.join(EIGHT, step, 20, 1)), 9);
            due("9 by " + step + ", taken off then", ran(5, 6, Checks.join(EIGHT, step, 20)), BAD);
        }
        for (int step = 12; step <= 17; step++) {
            due("8, then 7 by " + step, ran(5, 6, Checks.join(EIGHT, step, 4)), 4);
            due("7 and 2 more by " + step, ran(5, 6, Checks.join(EIGHT, step, 4, 4)), BAD);
        }
    }

    @Checks.Says("BAD if .. it divides by 0")
    static void dividesByZero() {
        for (int a : new int[] {MIN, -1, 0, 1, MAX}) {
            due(a + " / 0", ran(a, 0, 10, 11, 15), BAD);
            due(a + " / 0: at that step", Checks.burnt(a, 0, 10, 11, 15, 20, 1), 3);
            due(a + " / 0 then 1 laid", ran(a, 0, 10, 11, 15, 1), BAD);
        }
        due("0 / 1", ran(0, 1, 10, 11, 15), 0);
        due("5 / -1", ran(5, -1, 10, 11, 15), -5);
        due("by what went round to 0", ran(65536, 65536, 1, 10, 11, 14, 15), BAD);
    }

    @Checks.Says("BAD if .. it is empty at the end")
    static void emptyAtTheEnd() {
        due("by 20", ran(5, 6, 10, 20), BAD);
        due("by 20: steps", Checks.burnt(5, 6, 10, 20), 2);
        due("by a step that goes on elsewhere", ran(0, 6, 10, 21), BAD);
        due("empty on the way", ran(5, 6, 10, 20, 3), 3);
        due("one at the end", ran(5, 6, 10, 10, 20), 5);
    }

    @Checks.Says("It is UNKNOWN if more than FUEL (1 to 200; 60 at first) STEPS would be done: 60 at first")
    static void fuelAtFirst() {
        due("57", Checks.burnt(14, 0, DOWN), 57);
        due("59 steps", ran(14, 0, Checks.join(DOWN, 7, 8)), 8);
        due("60 steps", ran(14, 0, Checks.join(DOWN, 7, 8, 9)), 9);
        due("60 of 60", Checks.burnt(14, 0, Checks.join(DOWN, 7, 8, 9)), 60);
        due("61 steps", ran(15, 0, DOWN), UNKNOWN);
        due("61 steps: FUEL", Checks.burnt(15, 0, DOWN), 60);
        due("61 steps, straight on at the end", ran(14, 0, Checks.join(DOWN, 7, 8, 9, 9)), UNKNOWN);
    }

    @Checks.Says("It is UNKNOWN if more than FUEL (1 to 200; 60 at first) STEPS would be done: the most")
    static void mostFuel() {
        DoFinder x = holding(1, Checks.join(DOWN, 7, 8, 9));
        Checks.routine(x, 1, DOWN);
        x.limit(200);
        due("200 steps", x.run(0, 49, 0), 9);
        due("200 of 200", x.fuel(0, 49, 0), 200);
        due("201 steps", x.run(1, 50, 0), UNKNOWN);
        due("201 steps: FUEL", x.fuel(1, 50, 0), 200);
        x.limit(199);
        due("200 of 199", x.run(0, 49, 0), UNKNOWN);
        due("200 of 199: FUEL", x.fuel(0, 49, 0), 199);
    }

    @Checks.Says("It is UNKNOWN if more than FUEL (1 to 200; 60 at first) STEPS would be done: the least")
    static void leastFuel() {
        DoFinder x = holding(1, 10);
        Checks.routine(x, 1, 10, 10);
        Checks.routine(x, 1, 20, 10);
        x.limit(1);
        due("1 step", x.run(0, 5, 0), 5);
        due("1 of 1", x.fuel(0, 5, 0), 1);
        due("2 steps", x.run(1, 5, 0), UNKNOWN);
        due("2 steps: FUEL", x.fuel(1, 5, 0), 1);
        due("BAD at the first one", x.run(2, 5, 0), BAD);
        due("BAD at the first one", x.fuel(2, 5, 0), 1);
    }

    @Checks.Says("UNKNOWN if more than FUEL STEPS would be done; BAD at a STEP that is still done is BAD")
    static void badAtTheLastOfFuel() {
        DoFinder x = holding(2, 10, 11, 15, 1);
        Checks.routine(x, 2, 1, 1, 20, 20);
        x.limit(3);
        due("BAD at the last one", x.run(0, 5, 0), BAD);
        due("BAD at the last one: steps", x.fuel(0, 5, 0), 3);
        due("not BAD, one step more", x.run(0, 5, 1), UNKNOWN);
        due("empty one step later", x.run(1, 5, 0), UNKNOWN);
        x.limit(2);
        due("BAD one step later", x.run(0, 5, 0), UNKNOWN);
        due("BAD one step later: FUEL", x.fuel(0, 5, 0), 2);
        x.limit(4);
        due("empty behind the last one", x.run(1, 5, 0), BAD);
        due("empty behind the last one: steps", x.fuel(1, 5, 0), 4);
    }

    @Checks.Says("UNKNOWN if more than FUEL STEPS would be done, though the next one would be BAD")
    static void badBehindTheLastOfFuel() {
        int[][] bad = {{1, 20, 20}, {1, 20, 21}, {1, 20, 18}, {1, 1, 20, 12}, {1, 1, 20, 19}, {1, 0, 15},
            Checks.join(EIGHT, 9), Checks.join(EIGHT, 18), Checks.join(EIGHT, 10)};
        for (int[] steps : bad) {
            DoFinder x = holding(1, steps);
            x.limit(steps.length);
            due("the last step " + steps[steps.length - 1], x.run(0, 5, 0), BAD);
            due("all are done", x.fuel(0, 5, 0), steps.length);
            x.limit(steps.length - 1);
            due("one short", x.run(0, 5, 0), UNKNOWN);
            due("one short: FUEL", x.fuel(0, 5, 0), steps.length - 1);
        }
    }

    // ---- promises 1 to 9

    @Checks.Says("DoFinder(): No ROUTINES; an ASK of 1 ARGUMENT without EXAMPLES; no STEPS are written.")
    static void aNewObject() {
        for (int what = 0; what <= 8; what++) {
            due("many(" + what + ")", new DoFinder().many(what), 0);
        }
        due("many(9)", new DoFinder().many(9), 1);
        due("scrap", new DoFinder().scrap(), 0);
        due("the first step", new DoFinder().step(0), 1);
        due("ask", new DoFinder().ask(2), 0);
        due("the first example", new DoFinder().show(1, 1, 1), 0);
        due("the first example", new DoFinder().leave(1, 1, true), 0);
        due("FUEL", new DoFinder().limit(1), 60);
        DoFinder one = new DoFinder();
        DoFinder other = new DoFinder();
        Checks.routine(one, 1, 10);
        one.show(1, 0, 1);
        one.step(1);
        one.limit(7);
        for (int what = 0; what <= 8; what++) {
            due("another object, many(" + what + ")", other.many(what), 0);
        }
        due("another object, FUEL", other.limit(60), 60);
    }

    @Checks.Says("An object is used for at most 512 calls after it has been made")
    static void theLastCall() {
        DoFinder x = new DoFinder();
        for (int call = 1; call <= 508; call += 2) {
            due("step, call " + call, x.step(10), 1);
            due("scrap, call " + (call + 1), x.scrap(), 1);
        }
        due("call 509", x.step(10), 1);
        due("call 510", x.add(1), 0);
        due("call 511", x.show(3, 0, 3), 0);
        due("call 512", x.found(0), 0);
    }

    @Checks.Says("step: A STEP is written: how many are. NUMBER: it isn't 0 to 32")
    static void stepNumbers() {
        due("0", new DoFinder().step(0), 1);
        due("32", new DoFinder().step(32), 1);
        for (int none : new int[] {MIN, -1, 33, MAX}) {
            Checks.refused("step(" + none + ")", x -> x.step(none), NUMBER);
        }
    }

    @Checks.Says("step: FULL: 12 are")
    static void stepFull() {
        DoFinder x = new DoFinder();
        for (int n = 1; n <= 12; n++) {
            due("step " + n, x.step(9), n);
        }
        for (int step : new int[] {0, 11, 32}) {
            Checks.refused(Checks.State.ALL, "step(" + step + ")", y -> y.step(step), FULL);
        }
        due("12 are", x.scrap(), 12);
        due("there is room again", x.step(9), 1);
    }

    @Checks.Says("step: of several refusals the first one named: NUMBER, FULL")
    static void stepOrder() {
        for (int none : new int[] {MIN, -1, 33, MAX}) {
            Checks.refused(Checks.State.ALL, "step(" + none + ") when 12 are", x -> x.step(none), NUMBER);
        }
    }

    @Checks.Says("scrap: No STEPS are written any more: how many were.")
    static void scrapEdges() {
        DoFinder x = new DoFinder();
        due("none", x.scrap(), 0);
        Checks.write(x, 7);
        due("one", x.scrap(), 1);
        due("none again", x.scrap(), 0);
        Checks.write(x, 1, 2, 3, 4, 5, 6, 7, 8, 9, 9, 9, 9);
        due("12", x.scrap(), 12);
        due("none to add", x.add(1), NONE);
        due("how many", x.many(8), 0);
        for (int n = 1; n <= 12; n++) {
            due("12 more, " + n, x.step(n), n);
        }
        due("no more", x.step(1), FULL);
        due("they are added", x.add(2), 0);
        due("none are written then", x.scrap(), 0);
        due("the routine stays", x.of(0, 21), 12);
    }

    @Checks.Says("add: NUMBER: arguments isn't 1 or 2")
    static void addNumber() {
        due("1", holding(1, 10).many(0), 1);
        due("2", holding(2, 10).many(0), 1);
        for (int none : new int[] {MIN, -1, 0, 3, MAX}) {
            Checks.refused("add(" + none + ")", x -> x.add(none), NUMBER);
        }
    }

    @Checks.Says("add: NONE: no STEPS are written")
    static void addNone() {
        Checks.refused(Checks.State.NEW, "add(1)", x -> x.add(1), NONE);
        Checks.refused(Checks.State.NEW, "add(2)", x -> x.add(2), NONE);
        DoFinder x = holding(1, 10);
        due("behind an add", x.add(1), NONE);
        due("nothing came", x.many(0), 1);
        x.step(3);
        x.scrap();
        due("behind a scrap", x.add(2), NONE);
        x.step(3);
        due("one step is enough", x.add(2), 1);
    }

    @Checks.Says("add: KIND: a STEP lays an ARGUMENT that it doesn't take")
    static void addKindOfArguments() {
        for (int at = 0; at < 12; at++) {
            int[] steps = new int[12];
            steps[at] = 11;
            DoFinder x = new DoFinder();
            Checks.write(x, steps);
            due("11 at " + at + " of a routine of 1", x.add(1), KIND);
            due("the steps stay", x.many(8), 12);
            due("nothing came", x.many(0), 0);
            due("11 at " + at + " of a routine of 2", x.add(2), 0);
            due("it is there", x.of(0, 10 + at), 11);
        }
        due("10 of a routine of 1", holding(1, 10).of(0, 10), 10);
        due("12 of a routine of 1", holding(1, 12).of(0, 10), 12);
    }

    @Checks.Says("add: KIND: a STEP .. goes on with a STEP that isn't there")
    static void addKindOfSteps() {
        for (int count = 1; count <= 12; count++) {
            int[] steps = new int[count];
            steps[0] = 21 + count - 1;
            DoFinder x = new DoFinder();
            Checks.write(x, steps);
            due("goes on with the last of " + count, x.add(1), 0);
            due("it is there", x.of(0, 10), 21 + count - 1);
            int[] behind = new int[count];
            behind[count - 1] = 21 + count;
            due("goes on behind the last of " + count, behindTheLast(behind), count < 12 ? KIND : NONE);
        }
        DoFinder x = new DoFinder();
        Checks.write(x, 1, 32);
        due("goes on far behind it, of 1", x.add(1), KIND);
        due("goes on far behind it, of 2", x.add(2), KIND);
        due("the steps stay", x.many(8), 2);
        Checks.write(x, 0, 0, 0, 0, 0, 0, 0, 0, 0);
        due("one step is missing", x.add(1), KIND);
        due("the 12th comes", x.step(0), 12);
        due("all 12 are there", x.add(1), 0);
    }

    /** Of 12 a step 33 isn't taken, so nothing but zeros is written: those are scrapped. */
    private static int behindTheLast(int[] steps) {
        DoFinder x = new DoFinder();
        Checks.write(x, steps);
        if (x.many(8) < steps.length) {
            x.scrap();
        }
        int answer = x.add(2);
        due("nothing came", x.many(0), 0);
        return answer;
    }

    @Checks.Says("add: KIND changes nothing")
    static void addKindChangesNothing() {
        DoFinder x = new DoFinder();
        Checks.write(x, 4, 11, 12);
        due("refused", x.add(1), KIND);
        due("written still", x.many(8), 3);
        due("one more", x.step(22), 4);
        due("as if it had not been made", x.add(2), 0);
        int[] steps = {4, 11, 12, 22};
        for (int k = 0; k < 4; k++) {
            due("step " + k, x.of(0, 10 + k), steps[k]);
        }
    }

    @Checks.Says("add: FULL")
    static void addFull() {
        Checks.refused(Checks.State.ALL, "add(1)", x -> x.add(1), FULL);
        Checks.refused(Checks.State.ALL, "add(2)", x -> x.add(2), FULL);
        DoFinder x = withRoutines(11);
        x.step(4);
        due("the 12th", x.add(1), 11);
        x.step(4);
        due("the 13th", x.add(1), FULL);
        due("its step stays written", x.many(8), 1);
    }

    @Checks.Says("add: of several refusals the first one named: NUMBER, NONE, KIND, FULL")
    static void addOrder() {
        due("NUMBER and NONE", new DoFinder().add(0), NUMBER);
        due("NUMBER and NONE", new DoFinder().add(3), NUMBER);
        DoFinder kind = new DoFinder();
        Checks.write(kind, 11, 23);
        due("NUMBER and KIND", kind.add(0), NUMBER);
        due("NUMBER and KIND", kind.add(3), NUMBER);
        Checks.refused(Checks.State.ALL, "add(0) when 12 are", x -> x.add(0), NUMBER);
        Checks.refused(Checks.State.ALL, "add(3) when 12 are", x -> x.add(3), NUMBER);
        DoFinder x = withRoutines(12);
        due("NONE and FULL", x.add(1), NONE);
        due("NUMBER, NONE and FULL", x.add(3), NUMBER);
        x.step(11);
        due("KIND and FULL", x.add(1), KIND);
        due("FULL alone", x.add(2), FULL);
        x.step(23);
        due("KIND and FULL, a step that isn't there", x.add(2), KIND);
        due("NUMBER, KIND and FULL", x.add(0), NUMBER);
        due("the steps stay", x.many(8), 2);
    }

    @Checks.Says("mend: A STEP of a ROUTINE becomes another one: what it was")
    static void mendFirstAndLast() {
        DoFinder x = withRoutines(11);
        Checks.routine(x, 2, 0, 1, 2, 3, 4, 5, 6, 7, 20, 20, 20, 9);
        Checks.write(x, 1, 2, 3);
        due("the first routine", x.mend(0, 0, 0), 10);
        due("the first step of the last one", x.mend(11, 0, 32), 0);
        due("the last step of the last one", x.mend(11, 11, 0), 9);
        due("it becomes what it is", x.mend(11, 11, 0), 0);
        due("the first step", x.of(11, 10), 32);
        due("the last step", x.of(11, 21), 0);
        due("the second one stays", x.of(11, 11), 1);
        due("the first routine runs so", x.run(0, 5, 5), 0);
        due("the second routine stays", x.run(1, 5, 5), 5);
        due("what is written stays", x.many(8), 3);
    }

    @Checks.Says("mend: NUMBER: there is no such ROUTINE")
    static void mendNoRoutine() {
        for (int none : new int[] {MIN, -1, 12, MAX}) {
            Checks.refused("mend(" + none + ", 0, 5)", x -> x.mend(none, 0, 5), NUMBER);
        }
        Checks.refused(Checks.State.NEW, "mend(0, 0, 5)", x -> x.mend(0, 0, 5), NUMBER);
        Checks.refused(Checks.State.SOME, "mend(4, 0, 5)", x -> x.mend(4, 0, 5), NUMBER);
        due("the last that is", Checks.State.SOME.make().mend(3, 0, 5), 1);
    }

    @Checks.Says("mend: NUMBER: there is no such .. STEP")
    static void mendNoStep() {
        for (int none : new int[] {MIN, -1, 3, 12, MAX}) {
            Checks.refused(Checks.State.SOME, "mend(1, " + none + ", 5)", x -> x.mend(1, none, 5), NUMBER);
            Checks.refused(Checks.State.ALL, "mend(11, " + none + ", 5)", x -> x.mend(11, none, 5), NUMBER);
        }
        due("the last that is", Checks.State.SOME.make().mend(1, 2, 5), 13);
        DoFinder x = holding(1, twelveFrom(1));
        due("step 11 of 12", x.mend(0, 11, 7), 0);
        due("step 12 of 12", x.mend(0, 12, 7), NUMBER);
        due("no step behind it", x.of(0, 22), NUMBER);
    }

    @Checks.Says("mend: NUMBER: .. or it isn't 0 to 32")
    static void mendStepNumbers() {
        for (int none : new int[] {MIN, -1, 33, MAX}) {
            Checks.refused(Checks.State.SOME, "mend(1, 0, " + none + ")", x -> x.mend(1, 0, none), NUMBER);
            Checks.refused(Checks.State.ALL, "mend(11, 2, " + none + ")", x -> x.mend(11, 2, none), NUMBER);
        }
        DoFinder x = holding(1, twelveFrom(1));
        due("33 would go on with a 13th", x.mend(0, 0, 33), NUMBER);
        due("0", x.mend(0, 0, 0), 1);
        due("32", x.mend(0, 0, 32), 0);
    }

    @Checks.Says("mend: KIND, as of add(): a STEP lays an ARGUMENT that it doesn't take")
    static void mendKindOfArguments() {
        Checks.refused(Checks.State.SOME, "mend(0, 0, 11)", x -> x.mend(0, 0, 11), KIND);
        Checks.refused(Checks.State.ALL, "mend(10, 2, 11)", x -> x.mend(10, 2, 11), KIND);
        due("10 of a routine of 1", holding(1, 1).mend(0, 0, 10), 1);
        due("12 of a routine of 1", holding(1, 1).mend(0, 0, 12), 1);
        due("11 of a routine of 2", holding(2, 1).mend(0, 0, 11), 1);
    }

    @Checks.Says("mend: KIND, as of add(): a STEP .. goes on with a STEP that isn't there")
    static void mendKindOfSteps() {
        for (int count = 1; count <= 12; count++) {
            DoFinder x = holding(1, new int[count]);
            due("goes on with the first of " + count, x.mend(0, count - 1, 21), 0);
            due("goes on with the last of " + count, x.mend(0, count - 1, 20 + count), 21);
            due("goes on behind it", x.mend(0, count - 1, 21 + count), count < 12 ? KIND : NUMBER);
            due("as if it had not been made", x.of(0, 9 + count), 20 + count);
        }
        Checks.refused(Checks.State.SOME, "mend(1, 0, 24)", x -> x.mend(1, 0, 24), KIND);
        Checks.refused(Checks.State.ALL, "mend(11, 2, 32)", x -> x.mend(11, 2, 32), KIND);
        DoFinder x = holding(1, 1, 2);
        Checks.write(x, 1, 2, 3, 4);
        due("what is written isn't there", x.mend(0, 0, 23), KIND);
    }

    @Checks.Says("mend: of several refusals the first one named: NUMBER, KIND")
    static void mendOrder() {
        Checks.refused(Checks.State.SOME, "no routine, 11", x -> x.mend(4, 0, 11), NUMBER);
        Checks.refused(Checks.State.SOME, "no routine, 32", x -> x.mend(-1, 0, 32), NUMBER);
        Checks.refused(Checks.State.SOME, "no step, 11", x -> x.mend(0, 5, 11), NUMBER);
        Checks.refused(Checks.State.SOME, "no step below, 11", x -> x.mend(0, -1, 11), NUMBER);
        Checks.refused(Checks.State.SOME, "no step, 32", x -> x.mend(0, 5, 32), NUMBER);
        Checks.refused(Checks.State.NEW, "nothing at all, 11", x -> x.mend(0, 0, 11), NUMBER);
    }

    @Checks.Says("of: what = 0 ARGUMENTS, 1 how many STEPS, 10 + k: STEP k. NUMBER: .. another what")
    static void ofWhat() {
        DoFinder x = holding(2, 32, 1, 2, 3, 4, 5, 6, 7, 8, 9, 10, 11);
        Checks.routine(x, 1, 20);
        due("0", x.of(0, 0), 2);
        due("1", x.of(0, 1), 12);
        due("10, the first step", x.of(0, 10), 32);
        due("21, the last step of 12", x.of(0, 21), 11);
        due("0", x.of(1, 0), 1);
        due("1", x.of(1, 1), 1);
        due("10, the only step", x.of(1, 10), 20);
        due("11, behind the only step", x.of(1, 11), NUMBER);
        due("22, behind the last step of 12", x.of(0, 22), NUMBER);
        for (int what : new int[] {MIN, MIN + 9, MIN + 10, -1, 2, 9, 22, MAX}) {
            Checks.refused("of(0, " + what + ")", y -> y.of(0, what), NUMBER);
        }
        Checks.refused(Checks.State.SOME, "of(1, 13)", y -> y.of(1, 13), NUMBER);
        for (int what = 2; what <= 9; what++) {
            due("of 12 steps, what " + what, x.of(0, what), NUMBER);
        }
    }

    @Checks.Says("of: NUMBER: there is none such")
    static void ofNoRoutine() {
        for (int none : new int[] {MIN, -1, 12, MAX}) {
            for (int what : new int[] {0, 1, 10}) {
                Checks.refused("of(" + none + ", " + what + ")", x -> x.of(none, what), NUMBER);
            }
        }
        Checks.refused(Checks.State.NEW, "of(0, 0)", x -> x.of(0, 0), NUMBER);
        Checks.refused(Checks.State.SOME, "of(4, 0)", x -> x.of(4, 0), NUMBER);
        Checks.refused(Checks.State.SOME, "of(4, 10)", x -> x.of(4, 10), NUMBER);
        due("the last that is", Checks.State.SOME.make().of(3, 1), 3);
        due("the last of 12", Checks.State.ALL.make().of(11, 0), 2);
    }

    @Checks.Says("run: The OUTCOME of a ROUTINE for ARGUMENTS (of one of 1 the second counts nothing)")
    static void runSecondCountsNothing() {
        DoFinder x = holding(1, 10, 2, 14);
        for (int b : new int[] {MIN, -1, 0, 1, MAX}) {
            due("run with " + b, x.run(0, 21, b), 42);
            due("fuel with " + b, x.fuel(0, 21, b), 3);
        }
    }

    @Checks.Says("run: the ANSWER, BAD, or UNKNOWN. NOTHING: there is none such.")
    static void runNothing() {
        for (int none : new int[] {MIN, -1, 12, MAX}) {
            Checks.refused("run(" + none + ", 1, 1)", x -> x.run(none, 1, 1), NOTHING);
        }
        Checks.refused(Checks.State.NEW, "run(0, 1, 1)", x -> x.run(0, 1, 1), NOTHING);
        Checks.refused(Checks.State.SOME, "run(4, 1, 1)", x -> x.run(4, 1, 1), NOTHING);
        due("the last that is", Checks.State.SOME.make().run(3, 1, 0), 1);
        due("the last of 12", Checks.State.ALL.make().run(11, 3, 4), 7);
        due("what is only written is none", written().run(0, 1, 1), NOTHING);
        due("the least answer", ran(MIN, 0, 10), MIN);
        due("the answer -1", ran(-1, 0, 10), -1);
        due("the greatest answer", ran(MAX, 0, 10), MAX);
    }

    private static DoFinder written() {
        DoFinder x = new DoFinder();
        Checks.write(x, 10);
        return x;
    }

    @Checks.Says("fuel: How many STEPS that RUN does"
        + " (up to the one at which it is BAD, that too; FUEL if it is UNKNOWN)")
    static void fuelCounts() {
        due("one", Checks.burnt(5, 6, 10), 1);
        due("12", Checks.burnt(5, 6, 10, 1, 12, 1, 12, 1, 12, 1, 12, 1, 12, 1), 12);
        due("BAD at the first one", Checks.burnt(5, 6, 20, 1, 1), 1);
        due("BAD at the last one", Checks.burnt(5, 6, 1, 1, 12, 12), 4);
        due("empty at the end", Checks.burnt(5, 6, 1, 20), 2);
        due("UNKNOWN", Checks.burnt(5, 6, 1, 21), 60);
        DoFinder x = holding(1, 1, 21);
        for (int fuel : new int[] {1, 2, 199, 200}) {
            x.limit(fuel);
            due("UNKNOWN with FUEL " + fuel, x.fuel(0, 0, 0), fuel);
        }
    }

    @Checks.Says("fuel: NUMBER: there is no such ROUTINE.")
    static void fuelNumber() {
        for (int none : new int[] {MIN, -1, 12, MAX}) {
            Checks.refused("fuel(" + none + ", 1, 1)", x -> x.fuel(none, 1, 1), NUMBER);
        }
        Checks.refused(Checks.State.NEW, "fuel(0, 1, 1)", x -> x.fuel(0, 1, 1), NUMBER);
        Checks.refused(Checks.State.SOME, "fuel(4, 1, 1)", x -> x.fuel(4, 1, 1), NUMBER);
        due("the last that is", Checks.State.SOME.make().fuel(3, 1, 0), 3);
        due("what is only written is none", written().fuel(0, 1, 1), NUMBER);
    }

    @Checks.Says("limit: FUEL becomes n: what it was. NUMBER: it isn't 1 to 200.")
    static void limitEdges() {
        DoFinder x = holding(1, 1, 21);
        due("1 behind 60", x.limit(1), 60);
        due("it counts", x.fuel(0, 0, 0), 1);
        due("200 behind 1", x.limit(200), 1);
        due("it counts", x.fuel(0, 0, 0), 200);
        due("refused", x.limit(201), NUMBER);
        due("refused", x.limit(0), NUMBER);
        due("200 counts still", x.fuel(0, 0, 0), 200);
        due("what it was", x.limit(200), 200);
        for (int none : new int[] {MIN, -1, 0, 201, MAX}) {
            Checks.refused("limit(" + none + ")", y -> y.limit(none), NUMBER);
        }
    }

    public static void main(String[] args) {
        Checks.runAll(RoutineEdgesTest.class);
    }
}
