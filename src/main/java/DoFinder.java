/** A library of small routines that is searched by what they do. The words are those of DOC.md. */
public final class DoFinder {
    public static final int NUMBER = -1;
    public static final int FULL = -2;
    public static final int NONE = -3;
    public static final int KIND = -4;
    public static final long BAD = 1L << 40;
    public static final long UNKNOWN = 2L << 40;
    public static final long NOTHING = 3L << 40;

    private static final long ANY = 4L << 40;
    private static final int NO_PARTING = -1000;

    private static final int MOST_ROUTINES = 12;
    private static final int MOST_STEPS = 12;
    private static final int MOST_ON_PILE = 8;
    private static final int MOST_EXAMPLES = 8;
    private static final int MOST_FUEL = 200;
    private static final int FUEL_AT_FIRST = 60;

    /* 12 routines of 2 arguments, each in 20 ways. */
    private static final int MOST_WAYS = 240;
    /* 6 routines of 1 argument behind the 6 + 6 * 20 ways: no other share of the 12 gives more. */
    private static final int MOST_JOINTS = 756;

    private static final int ARGUMENT_0 = 10;
    private static final int ARGUMENT_1 = 11;
    private static final int PLUS = 12;
    private static final int MINUS = 13;
    private static final int TIMES = 14;
    private static final int DIVIDE = 15;
    private static final int LESSER = 16;
    private static final int TWICE = 18;
    private static final int CHANGE = 19;
    private static final int JUMP = 21;
    private static final int LAST_STEP = 32;

    private static final int CHANGED = 1;
    private static final int NUMBER_FIRST = 10;
    private static final int NUMBER_SECOND = 20;
    private static final int HOWS = 30;
    private static final int PER_ROUTINE = 100;
    private static final int PER_JOINT = 10000;

    private static final int MEETS = 0;
    private static final int MAY_MEET = 1;
    private static final int MISSES = 2;

    private final Routine written;
    private final Library library;
    private final Ask asked;
    private final Search search;
    private final Parting parter;

    public DoFinder() {
        written = new Routine();
        library = new Library();
        asked = new Ask();
        search = new Search(library, asked);
        parter = new Parting(search);
    }

    // ---- routines

    public int step(int step) {
        if (!isStep(step)) {
            return NUMBER;
        }
        return written.append(step) ? written.count : FULL;
    }

    public int scrap() {
        int were = written.count;
        written.count = 0;
        return were;
    }

    public int add(int arguments) {
        if (!isArguments(arguments)) {
            return NUMBER;
        }
        if (written.count == 0) {
            return NONE;
        }
        if (!written.isWhole(arguments)) {
            return KIND;
        }
        int number = library.take(written, arguments);
        if (number != FULL) {
            written.count = 0;
        }
        return number;
    }

    public int mend(int routine, int at, int step) {
        if (!library.has(routine) || !isStep(step)) {
            return NUMBER;
        }
        Routine mended = library.routines[routine];
        if (!mended.hasStep(at)) {
            return NUMBER;
        }
        if (!mended.mayHold(step, mended.arguments)) {
            return KIND;
        }
        int was = mended.steps[at];
        mended.steps[at] = step;
        return was;
    }

    public int of(int routine, int what) {
        if (!library.has(routine)) {
            return NUMBER;
        }
        Routine told = library.routines[routine];
        if (what == 0) {
            return told.arguments;
        }
        if (what == 1) {
            return told.count;
        }
        int at = what - 10;
        return told.hasStep(at) ? told.steps[at] : NUMBER;
    }

    public long run(int routine, int a, int b) {
        return library.outcome(routine, a, b);
    }

    public int fuel(int routine, int a, int b) {
        if (!library.has(routine)) {
            return NUMBER;
        }
        library.outcome(routine, a, b);
        return library.done;
    }

    public int limit(int n) {
        if (n < 1 || n > MOST_FUEL) {
            return NUMBER;
        }
        int was = library.fuel;
        library.fuel = n;
        return was;
    }

    // ---- the ask

    public int ask(int arguments) {
        if (!isArguments(arguments)) {
            return NUMBER;
        }
        int had = asked.count;
        asked.begin(arguments);
        return had;
    }

    public int show(int a, int b, int due) {
        return asked.append(a, b, due);
    }

    public int leave(int a, int b, boolean any) {
        return asked.append(a, b, any ? ANY : BAD);
    }

    public int drop() {
        if (asked.count == 0) {
            return NONE;
        }
        asked.count--;
        return asked.count;
    }

    public int like(int routine, int n) {
        if (!library.has(routine) || n < 0 || n > MOST_EXAMPLES) {
            return NUMBER;
        }
        int arguments = library.routines[routine].arguments;
        asked.begin(arguments);
        for (int place = 0; place < n; place++) {
            int a = World.firstAt(arguments, place);
            int b = World.secondAt(arguments, place);
            long outcome = library.outcome(routine, a, b);
            asked.append(a, b, outcome == UNKNOWN ? ANY : outcome);
        }
        return n;
    }

    // ---- found

    public long would(int way, int a, int b) {
        return search.isWayOrJoint(way) ? search.outcome(way, a, b) : NOTHING;
    }

    public int found(int k) {
        return search.pickedAt(k, search.pickWays(false));
    }

    public int open(int k) {
        return search.pickedAt(k, search.pickWays(true));
    }

    public int joint(int k) {
        return search.pickedAt(k, search.pickJoints());
    }

    public int near(int k) {
        return search.pickedAt(k, search.pickNear());
    }

    public int misses(int way) {
        return search.isWayOrJoint(way) ? search.countMisses(way) : NUMBER;
    }

    public int parting(int what) {
        int ways = search.pickWays(false);
        if (what < 0 || what > 3 || ways == 0) {
            return NO_PARTING;
        }
        parter.seek(ways, asked.arguments);
        switch (what) {
            case 0:
                return World.firstAt(asked.arguments, parter.place);
            case 1:
                return World.secondAt(asked.arguments, parter.place);
            case 2:
                return parter.most;
            default:
                return parter.unlike;
        }
    }

    public int many(int what) {
        switch (what) {
            case 0:
                return library.count;
            case 1:
                return asked.count;
            case 2:
                return search.listWays();
            case 3:
                return search.pickWays(false);
            case 4:
                return search.pickWays(true);
            case 5:
                return search.listWays() * library.countTaking(1);
            case 6:
                return search.pickJoints();
            case 7:
                return library.countDoubles();
            case 8:
                return written.count;
            case 9:
                return asked.arguments;
            default:
                return -1;
        }
    }

    // ---- doubles

    public int same(int r, int s) {
        int place = differ(r, s);
        if (place == NONE) {
            return 1;
        }
        return place < 0 ? place : 0;
    }

    public int differ(int r, int s) {
        if (!library.has(r) || !library.has(s)) {
            return NUMBER;
        }
        return library.firstDifference(r, s);
    }

    public int first(int routine) {
        if (!library.has(routine)) {
            return NUMBER;
        }
        for (int r = 0; r < routine; r++) {
            if (library.areDoubles(r, routine)) {
                return r;
            }
        }
        return routine;
    }

    private static boolean isStep(int step) {
        return step >= 0 && step <= LAST_STEP;
    }

    private static boolean isArguments(int arguments) {
        return arguments == 1 || arguments == 2;
    }

    /** Steps in a row: those of a routine, or those that are only written yet. */
    private static final class Routine {
        final int[] steps = new int[MOST_STEPS];
        int count = 0;
        int arguments = 1;

        boolean append(int step) {
            if (count >= MOST_STEPS) {
                return false;
            }
            steps[count] = step;
            count++;
            return true;
        }

        boolean hasStep(int at) {
            return at >= 0 && at < count;
        }

        /** The arguments are told, as those of what is written aren't known before it is added. */
        boolean mayHold(int step, int taken) {
            if (step == ARGUMENT_1) {
                return taken == 2;
            }
            return step < JUMP || hasStep(step - JUMP);
        }

        boolean isWhole(int taken) {
            for (int at = 0; at < count; at++) {
                if (!mayHold(steps[at], taken)) {
                    return false;
                }
            }
            return true;
        }

        void copy(Routine other, int taken) {
            System.arraycopy(other.steps, 0, steps, 0, MOST_STEPS);
            count = other.count;
            arguments = taken;
        }
    }

    /** The pile of a run: one for all runs, so that none makes its own. What would be BAD answers false. */
    private static final class Pile {
        private final int[] numbers = new int[MOST_ON_PILE];
        private int height = 0;
        int taken = 0;

        void clear() {
            height = 0;
        }

        boolean isEmpty() {
            return height == 0;
        }

        int top() {
            return height > 0 ? numbers[height - 1] : 0;
        }

        boolean lay(int number) {
            if (height >= MOST_ON_PILE) {
                return false;
            }
            numbers[height] = number;
            height++;
            return true;
        }

        boolean reckon(int step) {
            if (height < 2) {
                return false;
            }
            int upper = numbers[height - 1];
            int lower = numbers[height - 2];
            int made;
            if (step == PLUS) {
                made = lower + upper;
            } else if (step == MINUS) {
                made = lower - upper;
            } else if (step == TIMES) {
                made = lower * upper;
            } else if (step == DIVIDE) {
                if (upper == 0) {
                    return false;
                }
                made = lower / upper;
            } else if (step == LESSER) {
                made = lower < upper ? lower : upper;
            } else {
                made = lower > upper ? lower : upper;
            }
            height--;
            numbers[height - 1] = made;
            return true;
        }

        /** The steps that make no new number; a jump takes off what it looks at. */
        boolean arrange(int step) {
            int needed = step == CHANGE ? 2 : 1;
            if (height < needed || step == TWICE && height >= MOST_ON_PILE) {
                return false;
            }
            int upper = numbers[height - 1];
            if (step == TWICE) {
                numbers[height] = upper;
                height++;
            } else if (step == CHANGE) {
                numbers[height - 1] = numbers[height - 2];
                numbers[height - 2] = upper;
            } else {
                height--;
                taken = upper;
            }
            return true;
        }
    }

    /** The inputs on which routines are held against one another, told by their places. */
    private static final class World {
        static int size(int arguments) {
            return arguments == 1 ? 13 : 49;
        }

        static int firstAt(int arguments, int place) {
            return arguments == 1 ? place - 6 : place / 7 - 3;
        }

        static int secondAt(int arguments, int place) {
            return arguments == 1 ? 0 : place % 7 - 3;
        }
    }

    /** The routines, and the fuel under which they run. */
    private static final class Library {
        final Routine[] routines = new Routine[MOST_ROUTINES];
        private final Pile pile = new Pile();
        int count = 0;
        int fuel = FUEL_AT_FIRST;
        /* Of the latest run: how many steps, the one at which it was BAD among them. */
        int done = 0;

        Library() {
            // All are made at once, so that none is ever null.
            for (int r = 0; r < MOST_ROUTINES; r++) {
                routines[r] = new Routine();
            }
        }

        boolean has(int r) {
            return r >= 0 && r < count;
        }

        int take(Routine written, int arguments) {
            if (count >= MOST_ROUTINES) {
                return FULL;
            }
            routines[count].copy(written, arguments);
            count++;
            return count - 1;
        }

        long outcome(int r, int a, int b) {
            if (!has(r)) {
                return NOTHING;
            }
            Routine routine = routines[r];
            int at = 0;
            pile.clear();
            done = 0;
            for (int n = 0; n < fuel && routine.hasStep(at); n++) {
                done = n + 1;
                int step = routine.steps[at];
                boolean fine;
                if (step < PLUS) {
                    fine = pile.lay(numberLaid(step, a, b));
                } else {
                    fine = step < TWICE ? pile.reckon(step) : pile.arrange(step);
                }
                if (!fine) {
                    return BAD;
                }
                at = step >= JUMP && pile.taken != 0 ? step - JUMP : at + 1;
            }
            if (routine.hasStep(at)) {
                return UNKNOWN;
            }
            return pile.isEmpty() ? BAD : pile.top();
        }

        private static int numberLaid(int step, int a, int b) {
            if (step == ARGUMENT_0) {
                return a;
            }
            return step == ARGUMENT_1 ? b : step;
        }

        int countTaking(int arguments) {
            int taking = 0;
            for (int r = 0; r < count; r++) {
                if (routines[r].arguments == arguments) {
                    taking++;
                }
            }
            return taking;
        }

        /** A place in the world; NONE if they are doubles, KIND if their arguments are unlike. */
        int firstDifference(int r, int s) {
            if (!has(r) || !has(s) || routines[r].arguments != routines[s].arguments) {
                return KIND;
            }
            int arguments = routines[r].arguments;
            int size = World.size(arguments);
            for (int place = 0; place < size; place++) {
                int a = World.firstAt(arguments, place);
                int b = World.secondAt(arguments, place);
                long one = outcome(r, a, b);
                if (one == UNKNOWN || one != outcome(s, a, b)) {
                    return place;
                }
            }
            return NONE;
        }

        boolean areDoubles(int r, int s) {
            return firstDifference(r, s) == NONE;
        }

        int countDoubles() {
            int pairs = 0;
            for (int s = 1; s < count; s++) {
                for (int r = 0; r < s; r++) {
                    if (areDoubles(r, s)) {
                        pairs++;
                    }
                }
            }
            return pairs;
        }
    }

    /** The ask: its arguments and its examples. */
    private static final class Ask {
        final int[] firsts = new int[MOST_EXAMPLES];
        final int[] seconds = new int[MOST_EXAMPLES];
        final long[] dues = new long[MOST_EXAMPLES];
        int count = 0;
        int arguments = 1;

        void begin(int taken) {
            arguments = taken;
            count = 0;
        }

        int append(int a, int b, long due) {
            if (count >= MOST_EXAMPLES) {
                return FULL;
            }
            firsts[count] = a;
            seconds[count] = arguments == 1 ? 0 : b;
            dues[count] = due;
            count++;
            return count - 1;
        }
    }

    /** Ways and joints, and how they stand to the ask. */
    private static final class Search {
        private final Library library;
        private final Ask asked;
        private final int[] ways = new int[MOST_WAYS];
        private final int[] wayMisses = new int[MOST_WAYS];
        private final int[] picked = new int[MOST_JOINTS];
        private int pickedCount = 0;

        Search(Library library, Ask asked) {
            this.library = library;
            this.asked = asked;
        }

        boolean isWayOrJoint(int number) {
            if (number < PER_JOINT) {
                return isWay(number);
            }
            int behind = number / PER_JOINT - 1;
            return isBehind(behind) && isWay(number % PER_JOINT);
        }

        private boolean isBehind(int s) {
            return library.has(s) && library.routines[s].arguments == 1;
        }

        private boolean isWay(int number) {
            if (number < 0) {
                return false;
            }
            int r = number / PER_ROUTINE;
            return library.has(r) && fits(number % PER_ROUTINE, library.routines[r].arguments);
        }

        private boolean fits(int how, int taken) {
            if (asked.arguments == 2) {
                return how == 0 || how == CHANGED;
            }
            return taken == 1 ? how == 0 : how >= NUMBER_FIRST && how < HOWS;
        }

        /** Of a way or joint. */
        long outcome(int number, int a, int b) {
            int way = number % PER_JOINT;
            int how = way % PER_ROUTINE;
            int given = a;
            int other = b;
            if (how >= NUMBER_SECOND) {
                other = how - NUMBER_SECOND;
            } else if (how >= NUMBER_FIRST) {
                given = how - NUMBER_FIRST;
                other = a;
            } else if (how == CHANGED) {
                // This serves a routine of 1 as well: it takes the ask's second one then.
                given = b;
                other = a;
            }
            long before = library.outcome(way / PER_ROUTINE, given, other);
            if (number < PER_JOINT || before == BAD || before == UNKNOWN) {
                return before;
            }
            return library.outcome(number / PER_JOINT - 1, (int) before, 0);
        }

        private int judge(int number, int example) {
            long due = asked.dues[example];
            if (due == ANY) {
                return MEETS;
            }
            long is = outcome(number, asked.firsts[example], asked.seconds[example]);
            if (is == due) {
                return MEETS;
            }
            return is == UNKNOWN ? MAY_MEET : MISSES;
        }

        private boolean isFound(int number) {
            for (int e = 0; e < asked.count; e++) {
                if (judge(number, e) != MEETS) {
                    return false;
                }
            }
            return true;
        }

        private boolean isOpen(int number) {
            boolean unsure = false;
            for (int e = 0; e < asked.count; e++) {
                int judged = judge(number, e);
                if (judged == MISSES) {
                    return false;
                }
                if (judged == MAY_MEET) {
                    unsure = true;
                }
            }
            return unsure;
        }

        /** What is found or open has none. */
        int countMisses(int number) {
            int missed = 0;
            for (int e = 0; e < asked.count; e++) {
                if (judge(number, e) == MISSES) {
                    missed++;
                }
            }
            return missed;
        }

        /** Lists all ways by their numbers: how many. */
        int listWays() {
            int listed = 0;
            for (int r = 0; r < library.count; r++) {
                int taken = library.routines[r].arguments;
                for (int how = 0; how < HOWS; how++) {
                    if (fits(how, taken) && listed < MOST_WAYS) {
                        ways[listed] = PER_ROUTINE * r + how;
                        listed++;
                    }
                }
            }
            return listed;
        }

        /** Those that are open, or else those that are found. */
        int pickWays(boolean open) {
            int listed = listWays();
            pickedCount = 0;
            for (int i = 0; i < listed; i++) {
                if (open ? isOpen(ways[i]) : isFound(ways[i])) {
                    pick(ways[i]);
                }
            }
            return pickedCount;
        }

        int pickJoints() {
            int listed = listWays();
            pickedCount = 0;
            for (int s = 0; s < library.count; s++) {
                int behind = isBehind(s) ? listed : 0;
                for (int i = 0; i < behind; i++) {
                    int number = PER_JOINT * (s + 1) + ways[i];
                    if (isFound(number)) {
                        pick(number);
                    }
                }
            }
            return pickedCount;
        }

        int pickNear() {
            int listed = listWays();
            pickedCount = 0;
            for (int i = 0; i < listed; i++) {
                wayMisses[i] = countMisses(ways[i]);
            }
            for (int missed = 1; missed <= asked.count; missed++) {
                for (int i = 0; i < listed; i++) {
                    if (wayMisses[i] == missed) {
                        pick(ways[i]);
                    }
                }
            }
            return pickedCount;
        }

        private void pick(int number) {
            if (pickedCount < MOST_JOINTS) {
                picked[pickedCount] = number;
                pickedCount++;
            }
        }

        /** Number k of those that were picked. */
        int pickedAt(int k, int count) {
            return k >= 0 && k < count && k < MOST_JOINTS ? picked[k] : NONE;
        }
    }

    /** The input that parts the found ways best, and the rows on which it is sought. */
    private static final class Parting {
        private final Search search;
        private final long[] outcomes = new long[MOST_WAYS];
        private final int[] counts = new int[MOST_WAYS];
        private int mostHere = 0;
        private int unlikeHere = 0;
        int place = 0;
        int most = 0;
        int unlike = 0;

        Parting(Search search) {
            this.search = search;
        }

        /** Among so many ways that were picked, one at least. */
        void seek(int ways, int arguments) {
            int size = World.size(arguments);
            for (int here = 0; here < size; here++) {
                tally(ways, World.firstAt(arguments, here), World.secondAt(arguments, here));
                if (here == 0 || mostHere < most) {
                    place = here;
                    most = mostHere;
                    unlike = unlikeHere;
                }
            }
        }

        private void tally(int ways, int a, int b) {
            mostHere = 0;
            unlikeHere = 0;
            for (int i = 0; i < ways; i++) {
                int at = rowOf(search.outcome(search.pickedAt(i, ways), a, b));
                if (at < MOST_WAYS) {
                    counts[at]++;
                    mostHere = counts[at] > mostHere ? counts[at] : mostHere;
                }
            }
        }

        /** The row that counts an outcome; a new one for one not seen here yet. */
        private int rowOf(long outcome) {
            for (int at = 0; at < unlikeHere; at++) {
                if (outcomes[at] == outcome) {
                    return at;
                }
            }
            if (unlikeHere >= MOST_WAYS) {
                return MOST_WAYS;
            }
            outcomes[unlikeHere] = outcome;
            counts[unlikeHere] = 0;
            unlikeHere++;
            return unlikeHere - 1;
        }
    }
}
