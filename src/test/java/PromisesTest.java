// The promises one by one: ordinary inputs, the edges that the document names, and wrong inputs.
public final class PromisesTest {
    private static final int NUMBER = Checks.NUMBER;
    private static final int FULL = Checks.FULL;
    private static final int NONE = Checks.NONE;
    private static final int KIND = Checks.KIND;
    private static final long BAD = Checks.BAD;
    private static final long UNKNOWN = Checks.UNKNOWN;
    private static final long NOTHING = Checks.NOTHING;
    private static final int MIN = Checks.MIN;
    private static final int MAX = Checks.MAX;

    private static void due(String call, long got, long want) {
        Checks.due(call, got, want);
    }

    @Checks.Says("the constants")
    static void constants() {
        due("NUMBER", DoFinder.NUMBER, NUMBER);
        due("FULL", DoFinder.FULL, FULL);
        due("NONE", DoFinder.NONE, NONE);
        due("KIND", DoFinder.KIND, KIND);
        due("BAD", DoFinder.BAD, BAD);
        due("UNKNOWN", DoFinder.UNKNOWN, UNKNOWN);
        due("NOTHING", DoFinder.NOTHING, NOTHING);
    }

    @Checks.Says("promise 1")
    static void promise1New() {
        DoFinder x = new DoFinder();
        for (int what = 0; what <= 8; what++) {
            due("many " + what, x.many(what), 0);
        }
        due("many 9", x.many(9), 1);
        due("drop", x.drop(), NONE);
        due("found", x.found(0), NONE);
        due("scrap", x.scrap(), 0);
        due("run", x.run(0, 1, 1), NOTHING);
        due("FUEL at first", x.limit(60), 60);
        DoFinder y = new DoFinder();
        Checks.routine(y, 1, 10);
        due("another object is apart", x.many(0), 0);
    }

    @Checks.Says("promise 2")
    static void promise2Step() {
        DoFinder x = new DoFinder();
        for (int step = 0; step <= 32; step++) {
            due("step " + step, x.step(step), 1);
            due("scrap", x.scrap(), 1);
        }
        for (int bad : new int[] {-1, 33, MIN, MAX}) {
            due("step " + bad, x.step(bad), NUMBER);
        }
        due("nothing was written", x.many(8), 0);
        for (int n = 1; n <= 12; n++) {
            due("step number " + n, x.step(0), n);
        }
        due("step 13", x.step(0), FULL);
        due("NUMBER is named before FULL", x.step(33), NUMBER);
        due("12 are written", x.many(8), 12);
    }

    @Checks.Says("promise 3")
    static void promise3Scrap() {
        DoFinder x = new DoFinder();
        due("scrap of none", x.scrap(), 0);
        Checks.write(x, 1, 2, 3);
        due("scrap", x.scrap(), 3);
        due("scrap again", x.scrap(), 0);
        due("add", x.add(1), NONE);
        due("step", x.step(7), 1);
        due("add", x.add(1), 0);
        due("only the new step", x.of(0, 1), 1);
        due("the new step", x.of(0, 10), 7);
    }

    @Checks.Says("promise 4")
    static void promise4Add() {
        DoFinder x = new DoFinder();
        for (int bad : new int[] {0, 3, -1, MIN, MAX}) {
            due("add " + bad, x.add(bad), NUMBER);
        }
        due("nothing written", x.add(2), NONE);
        Checks.write(x, 10, 11, 12);
        due("argument 1 of a routine of 1", x.add(1), KIND);
        due("it stays written", x.many(8), 3);
        due("add of 2", x.add(2), 0);
        due("nothing is written then", x.many(8), 0);
        due("arguments", x.of(0, 0), 2);
        Checks.write(x, 10, 23);
        due("goes on behind the last step", x.add(1), KIND);
        due("NUMBER is named before KIND", x.add(3), NUMBER);
        x.step(1);
        due("the step it goes on with is there now", x.add(1), 1);
        Checks.write(x, 10, 32);
        due("step 11 isn't there", x.add(2), KIND);
        x.scrap();
        due("goes on with itself", Checks.routine(x, 1, 21), 2);
        due("12 steps", Checks.routine(x, 1, 32, 0, 0, 0, 0, 0, 0, 0, 0, 0, 0, 0), 3);
        for (int r = 4; r < 12; r++) {
            due("routine " + r, Checks.routine(x, 1 + r % 2, 10), r);
        }
        due("NUMBER is named before FULL", x.add(0), NUMBER);
        due("NONE is named before FULL", x.add(1), NONE);
        x.step(11);
        due("KIND is named before FULL", x.add(1), KIND);
        due("FULL", x.add(2), FULL);
        due("it stays written when FULL", x.many(8), 1);
        due("12 routines", x.many(0), 12);
    }

    @Checks.Says("promise 5")
    static void promise5Mend() {
        DoFinder x = new DoFinder();
        due("no routine", x.mend(0, 0, 1), NUMBER);
        Checks.routine(x, 1, 10, 2, 14);
        Checks.routine(x, 2, 10, 11, 12);
        due("mend", x.mend(0, 1, 5), 2);
        due("its new step", x.of(0, 11), 5);
        due("run", x.run(0, 4, 0), 20);
        due("the other one is as it was", x.run(1, 4, 3), 7);
        due("mend back", x.mend(0, 1, 2), 5);
        for (int bad : new int[] {-1, 2, MIN, MAX}) {
            due("routine " + bad, x.mend(bad, 0, 1), NUMBER);
        }
        for (int bad : new int[] {-1, 3, 12, MIN, MAX}) {
            due("at " + bad, x.mend(0, bad, 1), NUMBER);
        }
        for (int bad : new int[] {-1, 33, MIN, MAX}) {
            due("step " + bad, x.mend(0, 0, bad), NUMBER);
        }
        due("NUMBER is named before KIND", x.mend(0, 3, 11), NUMBER);
        due("argument 1 of a routine of 1", x.mend(0, 0, 11), KIND);
        due("argument 1 of a routine of 2", x.mend(1, 0, 11), 10);
        due("step 3 isn't there", x.mend(0, 2, 24), KIND);
        due("step 2 is", x.mend(0, 2, 23), 14);
        due("what was refused changes nothing", x.of(0, 10), 10);
        Checks.write(x, 1, 2, 3, 4);
        due("what is written doesn't count", x.mend(0, 0, 24), KIND);
        due("what is written stays", x.many(8), 4);
    }

    @Checks.Says("promise 6")
    static void promise6Of() {
        DoFinder x = new DoFinder();
        due("no routine", x.of(0, 0), NUMBER);
        Checks.routine(x, 2, 9, 11, 15, 20, 32 - 7);
        due("arguments", x.of(0, 0), 2);
        due("steps", x.of(0, 1), 5);
        int[] steps = {9, 11, 15, 20, 25};
        for (int k = 0; k < 5; k++) {
            due("step " + k, x.of(0, 10 + k), steps[k]);
        }
        for (int bad : new int[] {-1, 2, 9, 15, 22, MIN, MIN + 10, MAX}) {
            due("what " + bad, x.of(0, bad), NUMBER);
        }
        for (int bad : new int[] {-1, 1, 12, MIN, MAX}) {
            due("routine " + bad, x.of(bad, 0), NUMBER);
        }
        due("of 1", Checks.routine(x, 1, 3), 1);
        due("arguments", x.of(1, 0), 1);
    }

    @Checks.Says("promise 7")
    static void promise7RunSteps() {
        for (int n = 0; n <= 9; n++) {
            due("the number " + n, Checks.ran(5, 6, n), n);
        }
        due("argument 0", Checks.ran(5, 6, 10), 5);
        due("argument 1", Checks.ran(5, 6, 11), 6);
        due("12", Checks.ran(5, 6, 10, 11, 12), 11);
        due("13", Checks.ran(5, 6, 10, 11, 13), -1);
        due("14", Checks.ran(5, 6, 10, 11, 14), 30);
        due("15", Checks.ran(17, 5, 10, 11, 15), 3);
        due("15 cuts towards 0", Checks.ran(-17, 5, 10, 11, 15), -3);
        due("15 cuts towards 0", Checks.ran(17, -5, 10, 11, 15), -3);
        due("16", Checks.ran(5, 6, 10, 11, 16), 5);
        due("16", Checks.ran(6, 5, 10, 11, 16), 5);
        due("17", Checks.ran(5, 6, 10, 11, 17), 6);
        due("17", Checks.ran(6, 5, 10, 11, 17), 6);
        due("18", Checks.ran(5, 6, 10, 18, 14), 25);
        due("19", Checks.ran(5, 6, 10, 11, 19, 13), 1);
        due("20", Checks.ran(5, 6, 10, 11, 20), 5);
        due("21 to 32 go on elsewhere", Checks.ran(5, 6, 7, 10, 25, 8, 9), 9);
        due("they do so for what is below 0", Checks.ran(-5, 6, 7, 10, 25, 8, 9, 20), 7);
        due("or with the next one", Checks.ran(0, 6, 7, 10, 25, 20, 9, 12), BAD);
        due("they take it off", Checks.ran(5, 6, 7, 10, 24, 3), 3);
        due("what is below the top counts nothing", Checks.ran(5, 6, 1, 2, 3), 3);
        due("they go round: +", Checks.ran(MAX, 1, 10, 11, 12), MIN);
        due("they go round: -", Checks.ran(MIN, 1, 10, 11, 13), MAX);
        due("they go round: times", Checks.ran(MAX, 2, 10, 11, 14), -2);
        due("they go round: /", Checks.ran(MIN, -1, 10, 11, 15), MIN);
    }

    @Checks.Says("promise 7")
    static void promise7RunOutcomes() {
        due("divides by 0", Checks.ran(5, 0, 10, 11, 15), BAD);
        for (int step = 12; step <= 17; step++) {
            due(step + " needs two", Checks.ran(5, 6, 1, step), BAD);
            due(step + " needs two, has none", Checks.ran(5, 6, step), BAD);
        }
        due("18 needs one", Checks.ran(5, 6, 18), BAD);
        due("19 needs two", Checks.ran(5, 6, 1, 19), BAD);
        due("20 needs one", Checks.ran(5, 6, 20, 1), BAD);
        due("21 needs one", Checks.ran(5, 6, 21, 1), BAD);
        due("empty at the end", Checks.ran(5, 6, 10, 20), BAD);
        due("8 on the pile", Checks.ran(5, 6, 1, 2, 3, 4, 5, 6, 7, 8), 8);
        due("9 on the pile", Checks.ran(5, 6, 1, 2, 3, 4, 5, 6, 7, 8, 9), BAD);
        due("9 by 18", Checks.ran(5, 6, 1, 2, 3, 4, 5, 6, 7, 8, 18), BAD);
        due("9 by an argument, taken off later", Checks.ran(5, 6, 1, 2, 3, 4, 5, 6, 7, 8, 10, 20), BAD);
        due("runs for ever", Checks.ran(5, 6, 1, 21), UNKNOWN);

        DoFinder x = new DoFinder();
        Checks.routine(x, 1, 1, 2, 12);
        due("of 1", x.run(0, 5, 99), 3);
        x.limit(3);
        due("FUEL is just enough", x.run(0, 5, 0), 3);
        x.limit(2);
        due("FUEL is one short", x.run(0, 5, 0), UNKNOWN);
        Checks.routine(x, 1, 1, 12, 1);
        due("BAD at the last that FUEL allows", x.run(1, 0, 0), BAD);
        x.limit(1);
        due("it would be BAD one later", x.run(1, 0, 0), UNKNOWN);
        Checks.routine(x, 1, 1, 20);
        due("it would be empty at the end one later", x.run(2, 0, 0), UNKNOWN);
        x.limit(2);
        due("it is empty at the end", x.run(2, 0, 0), BAD);
        for (int bad : new int[] {-1, 3, 12, MIN, MAX}) {
            due("routine " + bad, x.run(bad, 0, 0), NOTHING);
        }
    }

    @Checks.Says("promise 8")
    static void promise8Fuel() {
        due("a straight one", Checks.burnt(5, 6, 10, 11, 12), 3);
        due("BAD at the second one", Checks.burnt(5, 6, 1, 12, 1), 2);
        due("BAD by division", Checks.burnt(5, 0, 10, 11, 15, 1, 1), 3);
        due("empty at the end", Checks.burnt(5, 6, 1, 20), 2);
        due("goes over one", Checks.burnt(5, 6, 7, 10, 25, 8, 9), 4);
        due("doesn't", Checks.burnt(0, 6, 7, 10, 25, 8, 9), 5);
        due("runs for ever", Checks.burnt(5, 6, 1, 21), 60);
        DoFinder x = new DoFinder();
        Checks.routine(x, 1, 1, 21);
        Checks.routine(x, 1, 1, 2, 3, 20);
        x.limit(200);
        due("FUEL", x.fuel(0, 0, 0), 200);
        x.limit(4);
        due("just enough", x.fuel(1, 0, 0), 4);
        x.limit(3);
        due("one short", x.fuel(1, 0, 0), 3);
        for (int bad : new int[] {-1, 2, 12, MIN, MAX}) {
            due("routine " + bad, x.fuel(bad, 0, 0), NUMBER);
        }
    }

    @Checks.Says("promise 9")
    static void promise9Limit() {
        DoFinder x = new DoFinder();
        due("at first", x.limit(1), 60);
        due("then", x.limit(200), 1);
        for (int bad : new int[] {0, 201, -1, MIN, MAX}) {
            due("limit " + bad, x.limit(bad), NUMBER);
        }
        due("what was refused changes nothing", x.limit(7), 200);
        due("then", x.limit(7), 7);
    }

    @Checks.Says("promise 10")
    static void promise10Ask() {
        DoFinder x = new DoFinder();
        due("ask 2", x.ask(2), 0);
        due("its arguments", x.many(9), 2);
        x.show(1, 2, 3);
        x.leave(1, 2, true);
        for (int bad : new int[] {0, 3, -1, MIN, MAX}) {
            due("ask " + bad, x.ask(bad), NUMBER);
        }
        due("what was refused changes nothing", x.many(1), 2);
        due("what was refused changes nothing", x.many(9), 2);
        due("ask 1", x.ask(1), 2);
        due("without examples", x.many(1), 0);
        due("its arguments", x.many(9), 1);
        due("ask 1 again", x.ask(1), 0);
    }

    @Checks.Says("promise 11")
    static void promise11Show() {
        DoFinder x = new DoFinder();
        Checks.routine(x, 2, 10, 11, 13);
        x.ask(2);
        due("show", x.show(9, 4, 5), 0);
        due("it is met", x.misses(0), 0);
        due("show", x.show(4, 9, 5), 1);
        due("it isn't", x.misses(0), 1);
        due("changed it misses both or one", x.misses(1), 1);
        for (int e = 2; e < 8; e++) {
            due("show " + e, x.show(MIN, MAX, 1), e);
        }
        due("FULL", x.show(0, 0, 0), FULL);
        due("8 examples", x.many(1), 8);
        due("met where they go round", x.misses(0), 1);
        DoFinder y = new DoFinder();
        Checks.routine(y, 1, 10);
        due("of an ask of 1", y.show(3, 77, 3), 0);
        due("b counts nothing", y.found(0), 0);
        due("an answer far off", y.show(MIN, 77, MIN), 1);
        due("found still", y.found(0), 0);
    }

    @Checks.Says("promise 12")
    static void promise12Leave() {
        DoFinder x = new DoFinder();
        Checks.routine(x, 1, 1, 10, 15);
        Checks.routine(x, 1, 10);
        due("leave BAD", x.leave(0, 5, false), 0);
        due("the one that divides", x.found(0), 0);
        due("no other one", x.found(1), NONE);
        due("leave ANY", x.leave(1, 5, true), 1);
        due("that parts nothing", x.many(3), 1);
        x.drop();
        x.drop();
        due("leave ANY alone", x.leave(0, 0, true), 0);
        due("all meet it", x.many(3), 2);
        x.limit(1);
        due("what is UNKNOWN meets ANY", x.many(3), 2);
        due("and isn't open", x.many(4), 0);
        for (int e = 1; e < 8; e++) {
            due("leave " + e, x.leave(0, 0, e % 2 == 0), e);
        }
        due("FULL", x.leave(0, 0, true), FULL);
        due("FULL", x.leave(0, 0, false), FULL);
        due("8 examples", x.many(1), 8);
    }

    @Checks.Says("promise 13")
    static void promise13Drop() {
        DoFinder x = new DoFinder();
        due("none", x.drop(), NONE);
        Checks.routine(x, 1, 10);
        x.show(1, 0, 1);
        x.show(2, 0, 3);
        due("not found", x.found(0), NONE);
        due("drop", x.drop(), 1);
        due("it was the latest one", x.found(0), 0);
        x.show(3, 0, 4);
        due("a new one in its place", x.misses(0), 1);
        due("drop", x.drop(), 1);
        due("drop", x.drop(), 0);
        due("none any more", x.drop(), NONE);
    }

    @Checks.Says("promise 14")
    static void promise14Like() {
        DoFinder x = new DoFinder();
        due("no routine", x.like(0, 1), NUMBER);
        Checks.routine(x, 2, 10);
        Checks.routine(x, 2, 11);
        Checks.routine(x, 1, 0, 3, 13);
        Checks.routine(x, 1, 0, 2, 13);
        Checks.routine(x, 1, 10);
        due("like argument 0 of 2", x.like(0, 8), 8);
        due("an ask of 2", x.many(9), 2);
        due("it finds itself", x.found(0), 0);
        due("7 of 8 are -3", x.misses(200), 1);
        due("1 of 8 is -2", x.misses(300), 7);
        due("like argument 1 of 2", x.like(1, 8), 8);
        due("2 of 8 are -3", x.misses(200), 6);
        due("1 of 8 is -2", x.misses(300), 7);
        due("argument 0 is the same at the first one only", x.misses(0), 7);
        due("changed it is all the same", x.misses(1), 0);
        due("like of 1", x.like(4, 3), 3);
        due("an ask of 1", x.many(9), 1);
        due("-6, -5, -4", x.many(1), 3);
        due("no -3", x.misses(200), 3);
        due("like of 1", x.like(4, 8), 8);
        due("one -3", x.misses(200), 7);
        x.ask(2);
        x.show(1, 1, 1);
        for (int bad : new int[] {-1, 9, MIN, MAX}) {
            due("n " + bad, x.like(0, bad), NUMBER);
        }
        for (int bad : new int[] {-1, 5, 12, MIN, MAX}) {
            due("routine " + bad, x.like(bad, 1), NUMBER);
        }
        due("what was refused changes nothing", x.many(9), 2);
        due("what was refused changes nothing", x.many(1), 1);
        due("n 0", x.like(4, 0), 0);
        due("no examples", x.many(1), 0);
        due("an ask of 1", x.many(9), 1);
    }

    @Checks.Says("promise 14")
    static void promise14LikeOutcomes() {
        DoFinder x = new DoFinder();
        Checks.routine(x, 1, 1, 10, 6, 12, 15);
        Checks.routine(x, 1, 1, 10, 22);
        Checks.routine(x, 1, 7);
        due("like one that divides by 0 at -6", x.like(0, 1), 1);
        due("BAD is due there", x.found(0), 0);
        due("only it is BAD there", x.found(1), NONE);
        due("one that runs out may be", x.open(0), 100);
        due("like one that runs out but at 0", x.like(1, 8), 8);
        due("6 are ANY, at 0 1 is due", x.misses(200), 1);
        due("it meets that", x.found(0), 100);
        due("1 / 6 is not 1", x.misses(0), 1);
        due("only 0 counts", x.like(1, 6), 6);
        due("all meet ANY", x.many(3), 3);
        due("like keeps what was due", x.like(2, 2), 2);
        x.mend(2, 0, 8);
        due("though the routine is mended", x.misses(200), 2);
    }

    @Checks.Says("promise 15")
    static void promise15Would() {
        DoFinder x = new DoFinder();
        due("no routines", x.would(0, 1, 1), NOTHING);
        Checks.routine(x, 2, 10, 11, 13);
        Checks.routine(x, 1, 10, 2, 14);
        due("3 - a", x.would(13, 10, 99), -7);
        due("0 - a", x.would(10, 10, 99), -10);
        due("9 - a", x.would(19, 10, 99), -1);
        due("a - 0", x.would(20, 10, 99), 10);
        due("a - 9", x.would(29, 10, 99), 1);
        due("twice", x.would(100, 10, 99), 20);
        due("twice behind", x.would(20013, 10, 99), -14);
        due("twice behind itself", x.would(20100, 10, 99), 40);
        int[] none = {0, 1, 9, 30, 99, 101, 110, 200, 9999, 10000, 10013, 20000, 20009, 20101, 20200, 30100, 130100,
            -1, -100, -20100, MIN, MAX};
        for (int bad : none) {
            due("of an ask of 1: " + bad, x.would(bad, 10, 5), NOTHING);
        }
        x.ask(2);
        due("in order", x.would(0, 10, 4), 6);
        due("changed", x.would(1, 10, 4), -6);
        due("the first one", x.would(100, 10, 4), 20);
        due("the second one", x.would(101, 10, 4), 8);
        due("behind", x.would(20001, 10, 4), -12);
        due("behind the second one", x.would(20101, 10, 4), 16);
        for (int bad : new int[] {2, 10, 13, 20, 29, 102, 110, 200, 10000, 10100, 20010, 30000, -1, MIN, MAX}) {
            due("of an ask of 2: " + bad, x.would(bad, 10, 5), NOTHING);
        }
    }

    @Checks.Says("promise 15")
    static void promise15WouldJoints() {
        DoFinder x = new DoFinder();
        Checks.routine(x, 1, 12);
        Checks.routine(x, 1, 1, 21);
        Checks.routine(x, 1, 10, 4);
        Checks.routine(x, 1, 1, 10, 4, 13, 15);
        due("BAD of the first", x.would(30000, 1, 0), BAD);
        due("UNKNOWN of the first", x.would(30100, 1, 0), UNKNOWN);
        due("UNKNOWN of the first behind BAD", x.would(10100, 1, 0), UNKNOWN);
        due("BAD of the first behind UNKNOWN", x.would(20000, 1, 0), BAD);
        due("BAD of the second", x.would(40200, 1, 0), BAD);
        due("UNKNOWN of the second", x.would(20200, 1, 0), UNKNOWN);
        due("both", x.would(30300, 5, 0), 4);
        x.mend(0, 0, 10);
        due("the least number of a joint", x.would(10000, 5, 0), 5);
        x.show(5, 0, 6);
        due("the least number of a joint", x.misses(10000), 1);
        x.limit(5);
        due("FUEL for each: 5 steps and 5", x.would(40300, 5, 0), 0);
        due("FUEL for each: 5 steps and 2", x.would(30300, 5, 0), 4);
        x.limit(4);
        due("FUEL for the first is short", x.would(30300, 5, 0), UNKNOWN);
        due("FUEL for the second is short", x.would(40200, 5, 0), UNKNOWN);
    }

    /** Square, product, sum, and twice. */
    private static DoFinder four() {
        DoFinder x = new DoFinder();
        Checks.routine(x, 1, 10, 10, 14);
        Checks.routine(x, 2, 10, 11, 14);
        Checks.routine(x, 2, 10, 11, 12);
        Checks.routine(x, 1, 10, 2, 14);
        return x;
    }

    @Checks.Says("promise 16")
    static void promise16Found() {
        DoFinder x = four();
        due("without examples the first way", x.found(0), 0);
        due("the second one", x.found(1), 110);
        due("the last one", x.found(41), 300);
        due("none behind it", x.found(42), NONE);
        x.show(2, 0, 4);
        int[] found = {0, 112, 122, 212, 222, 300};
        for (int k = 0; k < found.length; k++) {
            due("found " + k, x.found(k), found[k]);
        }
        for (int bad : new int[] {-1, 6, 240, 756, MIN, MAX}) {
            due("found " + bad, x.found(bad), NONE);
        }
        x.mend(0, 2, 12);
        x.show(3, 0, 6);
        due("when one is mended", x.found(0), 0);
        due("and one more shown", x.found(3), 300);
        due("no more", x.found(4), NONE);
        x.ask(2);
        x.show(3, 0, 6);
        due("of an ask of 2", x.found(0), 0);
        due("of an ask of 2", x.found(1), 300);
        due("of an ask of 2", x.found(2), NONE);
        x.limit(1);
        due("UNKNOWN is not found", x.found(0), NONE);
    }

    @Checks.Says("promise 17")
    static void promise17Open() {
        DoFinder x = new DoFinder();
        Checks.routine(x, 1, 1, 10, 22);
        Checks.routine(x, 1, 1);
        Checks.routine(x, 1, 1, 21);
        Checks.routine(x, 1, 2, 10, 22);
        due("without examples none is open", x.open(0), NONE);
        x.show(0, 0, 1);
        x.show(5, 0, 1);
        due("meets one, may meet the other", x.open(0), 0);
        due("may meet both", x.open(1), 200);
        due("what misses one isn't open", x.open(2), NONE);
        due("what is found isn't open", x.found(0), 100);
        for (int bad : new int[] {-1, 2, MIN, MAX}) {
            due("open " + bad, x.open(bad), NONE);
        }
        x.drop();
        due("one less", x.open(0), 200);
        due("one less", x.open(1), NONE);
        x.drop();
        x.leave(5, 0, true);
        due("ANY is met", x.open(0), NONE);
        x.leave(5, 0, false);
        due("it may be BAD", x.open(0), 0);
        due("it may be BAD", x.open(1), 200);
        due("it may be BAD", x.open(2), 300);
    }

    @Checks.Says("promise 18")
    static void promise18Joint() {
        DoFinder x = new DoFinder();
        Checks.routine(x, 1, 10, 1, 12);
        Checks.routine(x, 2, 10, 11, 14);
        Checks.routine(x, 1, 0, 10, 13);
        due("without examples all, the first", x.joint(0), 10000);
        due("by the numbers", x.joint(1), 10110);
        due("by the numbers", x.joint(21), 10200);
        due("by the numbers", x.joint(22), 30000);
        due("the last one", x.joint(43), 30200);
        due("none behind it", x.joint(44), NONE);
        x.show(3, 0, 7);
        x.show(4, 0, 9);
        due("twice, and one more", x.joint(0), 10112);
        due("twice, and one more", x.joint(1), 10122);
        due("no other one", x.joint(2), NONE);
        due("no way", x.found(0), NONE);
        for (int bad : new int[] {-1, 44, 756, MIN, MAX}) {
            due("joint " + bad, x.joint(bad), NONE);
        }
        x.ask(2);
        x.show(3, 2, -6);
        due("of an ask of 2", x.joint(0), 30100);
        due("of an ask of 2", x.joint(1), 30101);
        due("of an ask of 2", x.joint(2), NONE);
        x.limit(3);
        due("FUEL for each", x.joint(1), 30101);
        x.limit(2);
        due("UNKNOWN is not found", x.joint(0), NONE);
    }

    @Checks.Says("promise 19")
    static void promise19Near() {
        DoFinder x = new DoFinder();
        Checks.routine(x, 1, 1);
        Checks.routine(x, 1, 10);
        Checks.routine(x, 1, 10, 10, 14);
        Checks.routine(x, 1, 1, 21);
        Checks.routine(x, 1, 0);
        due("without examples none", x.near(0), NONE);
        x.show(1, 0, 1);
        x.show(2, 0, 4);
        x.show(3, 0, 3);
        due("one miss", x.near(0), 100);
        due("one miss", x.near(1), 200);
        due("two misses", x.near(2), 0);
        due("three misses", x.near(3), 400);
        due("what is open isn't near", x.near(4), NONE);
        for (int bad : new int[] {-1, 5, 240, MIN, MAX}) {
            due("near " + bad, x.near(bad), NONE);
        }
        x.drop();
        due("what is found isn't near", x.near(0), 0);
        due("one miss", x.near(1), 100);
        due("two misses", x.near(2), 400);
        due("no other one", x.near(3), NONE);
    }

    @Checks.Says("promise 20")
    static void promise20Misses() {
        DoFinder x = four();
        x.show(2, 0, 4);
        x.show(3, 0, 9);
        x.show(4, 0, 1);
        x.leave(5, 0, false);
        x.leave(5, 0, true);
        due("square", x.misses(0), 2);
        due("twice", x.misses(300), 3);
        due("1 times", x.misses(111), 4);
        due("a joint", x.misses(40111), 3);
        due("a joint", x.misses(10111), 2);
        x.limit(2);
        due("what may meet doesn't miss", x.misses(0), 0);
        for (int bad : new int[] {-1, 1, 10, 109, 130, 301, 400, 10001, 20000, 20300, 50000, MIN, MAX}) {
            due("misses " + bad, x.misses(bad), NUMBER);
        }
        x.limit(60);
        x.ask(2);
        due("found without examples", x.misses(1), 0);
        x.show(5, 6, 11);
        due("in order", x.misses(200), 0);
        due("changed", x.misses(301), 1);
        due("no way of an ask of 2", x.misses(212), NUMBER);
    }

    @Checks.Says("promise 21")
    static void promise21Parting() {
        DoFinder x = new DoFinder();
        due("nothing is found", x.parting(0), -1000);
        Checks.routine(x, 1, 10);
        Checks.routine(x, 1, 10, 5, 16);
        x.show(1, 0, 1);
        due("they part at 6 only", x.parting(0), 6);
        due("the second one of an ask of 1", x.parting(1), 0);
        due("each alone", x.parting(2), 1);
        due("two outcomes", x.parting(3), 2);
        for (int bad : new int[] {-1, 4, MIN, MAX}) {
            due("what " + bad, x.parting(bad), -1000);
        }
        x.show(1, 0, 2);
        due("nothing is found", x.parting(2), -1000);

        DoFinder y = new DoFinder();
        Checks.routine(y, 2, 10);
        Checks.routine(y, 2, 10, 11, 17);
        y.ask(2);
        y.show(1, 0, 1);
        due("the first that parts", y.parting(0), -3);
        due("the first that parts", y.parting(1), -2);
        due("changed it is the same", y.parting(2), 2);
        due("two outcomes", y.parting(3), 2);

        DoFinder last = new DoFinder();
        Checks.routine(last, 2, 10, 11, 12);
        Checks.routine(last, 2, 10, 11, 12, 5, 16);
        last.ask(2);
        due("the last input parts", last.parting(0), 3);
        due("the last input parts", last.parting(1), 3);
        due("two and two", last.parting(2), 2);

        DoFinder z = new DoFinder();
        Checks.routine(z, 1, 1, 10, 22);
        Checks.routine(z, 1, 1, 10, 22);
        Checks.routine(z, 1, 1);
        Checks.routine(z, 1, 1, 1, 10, 5, 12, 15, 20);
        z.show(0, 0, 1);
        due("all four are found", z.many(3), 4);
        due("at -5 it is no better", z.parting(0), -6);
        due("two UNKNOWN, two of 1", z.parting(2), 2);
        due("two outcomes at -6", z.parting(3), 2);
        Checks.routine(z, 1, 1);
        due("three of 1 but at -5", z.parting(0), -5);
        due("two UNKNOWN, two of 1, one BAD", z.parting(2), 2);
        due("three outcomes", z.parting(3), 3);
    }

    @Checks.Says("promise 22")
    static void promise22Many() {
        DoFinder x = four();
        x.step(1);
        x.step(2);
        x.show(2, 0, 4);
        x.show(3, 0, 6);
        // Found joints: twice, behind 1 times and behind 0 plus, each in two ways.
        int[] due = {4, 2, 42, 3, 0, 84, 4, 0, 2, 1};
        for (int what = 0; what < due.length; what++) {
            due("many " + what, x.many(what), due[what]);
        }
        for (int bad : new int[] {-1, 10, MIN, MAX}) {
            due("many " + bad, x.many(bad), -1);
        }
        x.ask(2);
        due("ways of an ask of 2", x.many(2), 8);
        due("joints of an ask of 2", x.many(5), 16);
        due("all are found", x.many(3), 8);
        due("all are found", x.many(6), 16);
        x.limit(2);
        x.show(1, 1, 1);
        due("all are open", x.many(4), 8);
        due("none is found", x.many(3), 0);
        due("none is found", x.many(6), 0);
    }

    @Checks.Says("promise 22")
    static void promise22ManyAtMost() {
        DoFinder x = new DoFinder();
        for (int r = 0; r < 6; r++) {
            Checks.routine(x, 1, 10);
            Checks.routine(x, 2, 10);
        }
        due("ways", x.many(2), 126);
        due("joints", x.many(5), 756);
        due("all joints are found", x.many(6), 756);
        due("the last joint", x.joint(755), 111129);
        due("pairs", x.many(7), 30);
        DoFinder y = new DoFinder();
        for (int r = 0; r < 12; r++) {
            Checks.routine(y, 2, 10);
        }
        due("ways", y.many(2), 240);
        due("all are found", y.many(3), 240);
        due("the last way", y.found(239), 1129);
        due("no joints", y.many(5), 0);
        due("pairs", y.many(7), 66);
        due("at 0 there would be 12 more", y.parting(2), 120);
        due("the numbers 0 to 9, and -6", y.parting(3), 11);
    }

    @Checks.Says("promise 23")
    static void promise23Same() {
        DoFinder x = new DoFinder();
        Checks.routine(x, 1, 10, 10, 12);
        Checks.routine(x, 1, 10, 2, 14);
        Checks.routine(x, 1, 10, 7, 16, 2, 14);
        Checks.routine(x, 1, 10, 5, 16, 2, 14);
        Checks.routine(x, 2, 10, 2, 14);
        Checks.routine(x, 1, 1, 10, 15);
        Checks.routine(x, 1, 10, 18, 14, 10, 18, 14, 10, 14, 15, 10, 14);
        due("doubles", x.same(0, 1), 1);
        due("beyond the world they differ", x.same(0, 2), 1);
        due("at 6 they differ", x.same(0, 3), 0);
        due("one is its own double", x.same(0, 0), 1);
        due("unlike arguments", x.same(0, 4), KIND);
        due("BAD is like BAD", x.same(5, 5), 1);
        due("BAD is not like an answer", x.same(5, 0), 0);
        for (int bad : new int[] {-1, 7, 12, MIN, MAX}) {
            due("same " + bad, x.same(bad, 4), NUMBER);
            due("same " + bad, x.same(4, bad), NUMBER);
        }
        x.limit(2);
        due("UNKNOWN is not like UNKNOWN", x.same(0, 1), 0);
        due("not its own double then", x.same(0, 0), 0);
        due("KIND still", x.same(4, 0), KIND);
    }

    @Checks.Says("promise 24")
    static void promise24Differ() {
        DoFinder x = new DoFinder();
        Checks.routine(x, 1, 10);
        Checks.routine(x, 1, 10, 5, 16);
        Checks.routine(x, 1, 10, 1, 14);
        Checks.routine(x, 2, 10);
        Checks.routine(x, 2, 11);
        Checks.routine(x, 2, 10, 2, 16);
        Checks.routine(x, 1, 10, 1, 10, 2, 12, 15, 20);
        Checks.routine(x, 1, 5, 10, 22);
        due("at 6", x.differ(0, 1), 12);
        due("doubles", x.differ(0, 2), NONE);
        due("itself", x.differ(0, 0), NONE);
        due("at -3, -2", x.differ(3, 4), 1);
        due("at 3, -3", x.differ(3, 5), 42);
        due("BAD at -2", x.differ(0, 6), 4);
        Checks.routine(x, 2, 10, 11, 12);
        Checks.routine(x, 2, 10, 11, 12, 5, 16);
        due("at 3, 3, the last one", x.differ(8, 9), 48);
        due("UNKNOWN at -6", x.differ(7, 7), 0);
        due("UNKNOWN at -6", x.differ(0, 7), 0);
        due("unlike arguments", x.differ(0, 3), KIND);
        for (int bad : new int[] {-1, 10, 12, MIN, MAX}) {
            due("differ " + bad, x.differ(bad, 3), NUMBER);
            due("differ " + bad, x.differ(3, bad), NUMBER);
        }
    }

    @Checks.Says("promise 25")
    static void promise25First() {
        DoFinder x = new DoFinder();
        due("none", x.first(0), NUMBER);
        Checks.routine(x, 2, 10);
        Checks.routine(x, 1, 10);
        Checks.routine(x, 1, 1, 21);
        Checks.routine(x, 1, 1, 21);
        Checks.routine(x, 1, 10, 1, 14);
        Checks.routine(x, 2, 10, 1, 14);
        Checks.routine(x, 1, 10, 18, 20);
        due("itself", x.first(0), 0);
        due("itself, of unlike arguments", x.first(1), 1);
        due("UNKNOWN", x.first(2), 2);
        due("UNKNOWN", x.first(3), 3);
        due("the double of 1", x.first(4), 1);
        due("the double of 0", x.first(5), 0);
        due("the least of two", x.first(6), 1);
        for (int bad : new int[] {-1, 7, 12, MIN, MAX}) {
            due("first " + bad, x.first(bad), NUMBER);
        }
        x.mend(1, 0, 1);
        due("when 1 is mended", x.first(6), 4);
        x.limit(2);
        due("when FUEL is short", x.first(6), 6);
    }

    public static void main(String[] args) {
        Checks.runAll(PromisesTest.class);
    }
}
