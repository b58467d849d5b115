// The edges of what is found, open or missed, in Terms 2, and of promises 16 to 20 and 22.
public final class FoundEdgesTest {
    private static final int NUMBER = Checks.NUMBER;
    private static final int NONE = Checks.NONE;
    private static final int MIN = Checks.MIN;
    private static final int MAX = Checks.MAX;

    private static void due(String call, long got, long want) {
        Checks.due(call, got, want);
    }

    /** Routines of 1: itself; BAD; for ever; 1 for 0 and else for ever; 0. */
    private static DoFinder five() {
        DoFinder x = new DoFinder();
        Checks.routine(x, 1, 10);
        Checks.routine(x, 1, 12);
        Checks.routine(x, 1, 1, 21);
        Checks.routine(x, 1, 1, 10, 22);
        Checks.routine(x, 1, 0);
        return x;
    }

    private static DoFinder twelve(int arguments, int... steps) {
        DoFinder x = new DoFinder();
        for (int r = 0; r < 12; r++) {
            Checks.routine(x, arguments, steps);
        }
        return x;
    }

    /** 6 of 1 and 6 of 2, in turn: no other share of 12 has as many joints. */
    private static DoFinder mostJoints() {
        DoFinder x = new DoFinder();
        for (int r = 0; r < 6; r++) {
            Checks.routine(x, 1, 10);
            Checks.routine(x, 2, 10);
        }
        return x;
    }

    // ---- terms

    @Checks.Says("A WAY or JOINT MEETS an EXAMPLE if its OUTCOME there is what is DUE")
    static void meetsWhatIsDue() {
        DoFinder x = five();
        x.show(0, 0, 0);
        due("0", x.misses(0), 0);
        due("BAD isn't 0", x.misses(100), 1);
        due("1 isn't 0", x.misses(300), 1);
        due("found: itself", x.found(0), 0);
        due("found: 0", x.found(1), 400);
        due("no more", x.found(2), NONE);
        due("only what is UNKNOWN may meet it", x.open(0), 200);
        due("no more", x.open(1), NONE);
        x.ask(1);
        x.leave(0, 0, false);
        due("BAD", x.found(0), 100);
        due("no more", x.found(1), NONE);
        due("0 isn't BAD", x.misses(400), 1);
        x.ask(1);
        x.show(MIN, 0, MIN);
        x.show(MAX, 0, MAX);
        due("the least and the greatest", x.found(0), 0);
    }

    @Checks.Says("MEETS .. or that is ANY; it may MEET it, if it is UNKNOWN and that is not ANY")
    static void mayMeet() {
        DoFinder x = five();
        x.leave(5, 0, true);
        due("all meet ANY", x.many(3), 5);
        due("none may only", x.many(4), 0);
        x.show(5, 0, 5);
        due("UNKNOWN may meet an answer", x.open(0), 200);
        due("UNKNOWN may meet an answer", x.open(1), 300);
        due("no others", x.open(2), NONE);
        due("it misses none", x.misses(200), 0);
        due("BAD is not unknown", x.misses(100), 1);
        x.drop();
        x.leave(5, 0, false);
        due("UNKNOWN may meet BAD", x.many(4), 2);
        due("BAD meets it", x.found(0), 100);
    }

    @Checks.Says("It is FOUND if it MEETS all: no EXAMPLES, and all 8")
    static void foundMeetsAll() {
        DoFinder x = five();
        due("all meet none", x.many(3), 5);
        due("and all joints", x.many(6), 25);
        for (int e = 0; e < 8; e++) {
            x.show(e, 0, e);
        }
        due("all 8", x.found(0), 0);
        due("the only one", x.many(3), 1);
        x.drop();
        x.show(7, 0, 8);
        due("all but the last", x.many(3), 0);
        due("one miss", x.misses(0), 1);
        x.ask(1);
        x.show(0, 0, 1);
        for (int e = 1; e < 8; e++) {
            x.show(e, 0, e);
        }
        due("all but the first", x.misses(0), 1);
        due("is not found", x.found(0), NONE);
    }

    @Checks.Says("OPEN if it MEETS or may MEET all, and isn't FOUND")
    static void openMeetsOrMayMeetAll() {
        DoFinder x = five();
        due("no examples: none is open", x.many(4), 0);
        x.show(0, 0, 1);
        due("it meets the one: found", x.found(0), 300);
        due("not open", x.open(1), NONE);
        for (int e = 1; e < 8; e++) {
            x.show(e, 0, 1);
        }
        due("may meet all 8", x.open(0), 200);
        due("meets 1, may meet 7", x.open(1), 300);
        due("no more", x.many(4), 2);
        x.drop();
        x.show(0, 0, 2);
        due("may meet all 8 still", x.open(0), 200);
        due("misses the last", x.open(1), NONE);
        due("one miss, though 6 may be met", x.misses(300), 1);
        x.ask(1);
        x.show(0, 0, 2);
        x.show(1, 0, 1);
        due("misses the first", x.misses(300), 1);
        due("is not open", x.many(4), 1);
    }

    @Checks.Says("else its MISSES are how many EXAMPLES it neither MEETS nor may MEET")
    static void missesFromOneToEight() {
        DoFinder x = five();
        for (int e = 0; e < 8; e++) {
            x.leave(0, 0, false);
            due("of " + (e + 1), x.misses(0), e + 1);
            due("BAD misses none", x.misses(100), 0);
            due("UNKNOWN misses none", x.misses(200), 0);
        }
    }

    @Checks.Says("WAYS and JOINTS stand by their numbers")
    static void byTheirNumbers() {
        DoFinder x = mostJoints();
        int before = -1;
        for (int k = 0; k < 126; k++) {
            int way = x.found(k);
            due("way " + k + " is greater", way > before ? 1 : 0, 1);
            before = way;
        }
        for (int k = 0; k < 300; k++) {
            int joint = x.joint(k);
            due("joint " + k + " is greater", joint > before ? 1 : 0, 1);
            before = joint;
        }
    }

    // ---- promises 16 to 20 and 22

    @Checks.Says("found: FOUND WAY k (from 0 on). NONE: there is none such.")
    static void foundEdges() {
        for (int none : new int[] {MIN, -1, 240, 756, MAX}) {
            Checks.refused("found(" + none + ")", x -> x.found(none), NONE);
        }
        Checks.refused(Checks.State.NEW, "found(0)", x -> x.found(0), NONE);
        Checks.refused(Checks.State.SOME, "found(1)", x -> x.found(1), NONE);
        Checks.refused(Checks.State.ALL, "found(0)", x -> x.found(0), NONE);
        due("the only one", Checks.State.SOME.make().found(0), 0);
        DoFinder most = twelve(2, 10);
        due("the first of 240", most.found(0), 10);
        due("the 20th, the last of routine 0", most.found(19), 29);
        due("the 21st, the first of routine 1", most.found(20), 110);
        due("the last of 240", most.found(239), 1129);
        due("none behind it", most.found(240), NONE);
        DoFinder ones = twelve(1, 10);
        due("the last of 12", ones.found(11), 1100);
        due("none behind it", ones.found(12), NONE);
        ones.ask(2);
        due("the last of 24", ones.found(23), 1101);
        due("none behind it", ones.found(24), NONE);
    }

    @Checks.Says("open: OPEN WAY k (from 0 on). NONE: there is none such.")
    static void openEdges() {
        for (int none : new int[] {MIN, -1, 240, 756, MAX}) {
            Checks.refused("open(" + none + ")", x -> x.open(none), NONE);
        }
        Checks.refused(Checks.State.NEW, "open(0)", x -> x.open(0), NONE);
        Checks.refused(Checks.State.SOME, "open(1)", x -> x.open(1), NONE);
        Checks.refused(Checks.State.ALL, "open(0)", x -> x.open(0), NONE);
        due("the only one", Checks.State.SOME.make().open(0), 200);
        DoFinder most = twelve(2, 1, 21);
        due("none without examples", most.open(0), NONE);
        most.show(1, 0, 1);
        due("the first of 240", most.open(0), 10);
        due("the last of 240", most.open(239), 1129);
        due("none behind it", most.open(240), NONE);
        due("all are open", most.many(4), 240);
    }

    @Checks.Says("joint: FOUND JOINT k (from 0 on). NONE: there is none such.")
    static void jointEdges() {
        for (int none : new int[] {MIN, -1, 756, MAX}) {
            Checks.refused("joint(" + none + ")", x -> x.joint(none), NONE);
        }
        Checks.refused(Checks.State.NEW, "joint(0)", x -> x.joint(0), NONE);
        Checks.refused(Checks.State.ALL, "joint(0)", x -> x.joint(0), NONE);
        due("no routine of 1: no joints", twelve(2, 10).joint(0), NONE);
        DoFinder most = mostJoints();
        due("the first of 756", most.joint(0), 10000);
        due("the last behind routine 0", most.joint(125), 11129);
        due("the first behind routine 2", most.joint(126), 30000);
        due("the last of 756", most.joint(755), 111129);
        due("none behind it", most.joint(756), NONE);
        DoFinder one = new DoFinder();
        Checks.routine(one, 1, 10);
        due("one alone, behind itself", one.joint(0), 10000);
        due("no more", one.joint(1), NONE);
        one.show(1, 0, 2);
        due("not found", one.joint(0), NONE);
    }

    @Checks.Says("joint: what is OPEN isn't FOUND; a JOINT may be FOUND where no WAY is")
    static void jointsThatAreNotFound() {
        DoFinder x = five();
        x.show(5, 0, 5);
        due("itself behind itself", x.joint(0), 10000);
        due("UNKNOWN is not found", x.joint(1), NONE);
        x.ask(1);
        x.leave(5, 0, true);
        due("ANY is met by UNKNOWN", x.many(6), 25);
        DoFinder y = new DoFinder();
        Checks.routine(y, 1, 10, 1, 12);
        y.show(5, 0, 7);
        due("no way", y.found(0), NONE);
        due("one more, twice", y.joint(0), 10000);
    }

    @Checks.Says("near: WAY k (from 0 on) of those that are neither FOUND nor OPEN .. NONE: there is none such.")
    static void nearEdges() {
        for (int none : new int[] {MIN, -1, 240, 756, MAX}) {
            Checks.refused("near(" + none + ")", x -> x.near(none), NONE);
        }
        Checks.refused(Checks.State.NEW, "near(0)", x -> x.near(0), NONE);
        Checks.refused(Checks.State.SOME, "near(21)", x -> x.near(21), NONE);
        Checks.refused(Checks.State.ALL, "near(24)", x -> x.near(24), NONE);
        due("20 + 1 miss", Checks.State.SOME.make().near(20) != NONE ? 1 : 0, 1);
        DoFinder most = twelve(2, 5);
        due("without examples none", most.near(0), NONE);
        most.show(1, 0, 1);
        due("the first of 240", most.near(0), 10);
        due("the last of 240", most.near(239), 1129);
        due("none behind it", most.near(240), NONE);
    }

    @Checks.Says("near: .. by their MISSES, the fewest first, then by their numbers")
    static void nearInOrder() {
        DoFinder x = new DoFinder();
        for (int n : new int[] {9, 3, 8, 3, 7, 0}) {
            Checks.routine(x, 1, n);
        }
        for (int e = 0; e < 7; e++) {
            x.show(e, 0, 3);
        }
        x.show(7, 0, 8);
        int[] near = {100, 300, 200, 0, 400, 500};
        for (int k = 0; k < near.length; k++) {
            due("near(" + k + ")", x.near(k), near[k]);
        }
        due("one miss", x.misses(100), 1);
        due("seven misses", x.misses(200), 7);
        due("all 8 missed", x.misses(500), 8);
        x.drop();
        due("what is found isn't near", x.near(0), 0);
        due("7 of 7 missed", x.misses(200), 7);
        due("by their numbers now", x.near(1), 200);
        due("the last one", x.near(3), 500);
        due("no more", x.near(4), NONE);
    }

    @Checks.Says("misses: MISSES of a WAY or JOINT; 0 if it is FOUND or OPEN. NUMBER: it is none.")
    static void missesEdges() {
        for (int none : new int[] {MIN, -100, -1, 2, 9, 30, 99, 9999, 130000, MAX}) {
            Checks.refused("misses(" + none + ")", x -> x.misses(none), NUMBER);
        }
        Checks.refused(Checks.State.NEW, "misses(0)", x -> x.misses(0), NUMBER);
        Checks.refused(Checks.State.NEW, "misses(10000)", x -> x.misses(10000), NUMBER);
        Checks.refused(Checks.State.SOME, "misses(400)", x -> x.misses(400), NUMBER);
        Checks.refused(Checks.State.SOME, "misses(50000)", x -> x.misses(50000), NUMBER);
        Checks.refused(Checks.State.SOME, "misses(20000)", x -> x.misses(20000), NUMBER);
        Checks.refused(Checks.State.ALL, "misses(1200)", x -> x.misses(1200), NUMBER);
        Checks.refused(Checks.State.ALL, "misses(121101)", x -> x.misses(121101), NUMBER);
        DoFinder x = five();
        x.show(5, 0, 5);
        due("found", x.misses(0), 0);
        due("open", x.misses(200), 0);
        due("missed", x.misses(100), 1);
        due("a joint that is found", x.misses(10000), 0);
        due("a joint that is open", x.misses(10300), 0);
        due("a joint that is missed", x.misses(50000), 1);
        due("a joint that is missed, BAD", x.misses(30100), 1);
        due("a joint of what is UNKNOWN first", x.misses(20200), 0);
        for (int e = 1; e < 8; e++) {
            x.leave(5, 0, false);
        }
        due("a joint that misses 7", x.misses(10000), 7);
        due("a joint that misses 8", x.misses(50000), 8);
    }

    @Checks.Says("many: what = 0 ROUTINES .. 9 ARGUMENTS of THE ASK; -1 for another what")
    static void manyWhat() {
        for (int none : new int[] {MIN, -1, 10, MAX}) {
            Checks.refused("many(" + none + ")", x -> x.many(none), -1);
        }
        DoFinder all = Checks.State.ALL.make();
        int[] most = {12, 8, 24, 0, 0, 144, 0, 1, 12, 2};
        for (int what = 0; what < most.length; what++) {
            due("many(" + what + ")", all.many(what), most[what]);
        }
        int[] some = {4, 3, 23, 1, 1, 69, 2, 0, 3, 1};
        for (int what = 0; what < some.length; what++) {
            due("many(" + what + ") of some", Checks.State.SOME.make().many(what), some[what]);
        }
    }

    @Checks.Says("many: the most WAYS, JOINTS and pairs that 12 ROUTINES have")
    static void manyMost() {
        DoFinder twos = twelve(2, 10);
        due("ways of 12 of 2", twos.many(2), 240);
        due("found", twos.many(3), 240);
        due("joints", twos.many(5), 0);
        due("found joints", twos.many(6), 0);
        due("pairs", twos.many(7), 66);
        twos.ask(2);
        due("ways of an ask of 2", twos.many(2), 24);
        DoFinder ones = twelve(1, 10);
        due("ways of 12 of 1", ones.many(2), 12);
        due("joints", ones.many(5), 144);
        due("found joints", ones.many(6), 144);
        due("pairs", ones.many(7), 66);
        ones.ask(2);
        due("ways of an ask of 2", ones.many(2), 24);
        due("joints of an ask of 2", ones.many(5), 288);
        due("found joints of an ask of 2", ones.many(6), 288);
        due("the last one", ones.joint(287), 121101);
        DoFinder most = mostJoints();
        due("ways of 6 and 6", most.many(2), 126);
        due("joints of 6 and 6", most.many(5), 756);
        due("found joints of 6 and 6", most.many(6), 756);
        due("pairs of 6 and 6", most.many(7), 30);
    }

    public static void main(String[] args) {
        Checks.runAll(FoundEdgesTest.class);
    }
}
