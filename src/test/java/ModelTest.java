import java.util.ArrayList;
import java.util.Comparator;
import java.util.HashMap;
import java.util.List;
import java.util.Map;
import java.util.Random;
import java.util.TreeMap;

// Random runs of calls, each answer held against a model that says the document's words in another way.
public final class ModelTest {
    private static final int OBJECTS = 1500;
    private static final int CALLS = 512;
    private static final long BAD = 1L << 40;
    private static final long UNKNOWN = 2L << 40;
    private static final long NOTHING = 3L << 40;
    private static final long ANY = -1L << 50;

    private static final String[] NAMES = {"step", "scrap", "add", "mend", "of", "run", "fuel", "limit", "ask", "show",
        "leave", "drop", "like", "would", "found", "open", "joint", "near", "misses", "parting", "many", "same",
        "differ", "first"};

    private record Routine(int arguments, List<Integer> steps) { }

    private record Input(int a, int b) { }

    private record Example(Input input, long due) { }

    private static final class Model {
        final List<Integer> written = new ArrayList<>();
        final List<Routine> routines = new ArrayList<>();
        List<Example> examples = new ArrayList<>();
        int arguments = 1;
        int fuel = 60;

        boolean unfit(int step, int takes, int steps) {
            return step == 11 && takes < 2 || step > 20 && step - 21 > steps - 1;
        }

        boolean isRoutine(int r) {
            return 0 <= r && r < routines.size();
        }

        long step(int step) {
            if (step < 0 || step > 32) {
                return -1;
            }
            if (written.size() == 12) {
                return -2;
            }
            written.add(step);
            return written.size();
        }

        long scrap() {
            int were = written.size();
            written.clear();
            return were;
        }

        long add(int takes) {
            if (takes != 1 && takes != 2) {
                return -1;
            }
            if (written.isEmpty()) {
                return -3;
            }
            if (written.stream().anyMatch(step -> unfit(step, takes, written.size()))) {
                return -4;
            }
            if (routines.size() == 12) {
                return -2;
            }
            routines.add(new Routine(takes, new ArrayList<>(written)));
            written.clear();
            return routines.size() - 1;
        }

        long mend(int r, int at, int step) {
            if (!isRoutine(r) || at < 0 || at >= routines.get(r).steps.size() || step < 0 || step > 32) {
                return -1;
            }
            Routine routine = routines.get(r);
            return unfit(step, routine.arguments, routine.steps.size()) ? -4 : routine.steps.set(at, step);
        }

        long of(int r, int what) {
            if (!isRoutine(r)) {
                return -1;
            }
            Map<Integer, Integer> told = new HashMap<>();
            told.put(0, routines.get(r).arguments);
            told.put(1, routines.get(r).steps.size());
            for (int k = 0; k < routines.get(r).steps.size(); k++) {
                told.put(10 + k, routines.get(r).steps.get(k));
            }
            return told.getOrDefault(what, -1);
        }

        /** The outcome, and behind it how many steps were done. */
        long[] run(Routine routine, int a, int b) {
            List<Integer> pile = new ArrayList<>();
            int at = 0;
            for (int done = 0;; done++) {
                if (at == routine.steps.size()) {
                    return new long[] {pile.isEmpty() ? BAD : pile.get(pile.size() - 1), done};
                }
                if (done == fuel) {
                    return new long[] {UNKNOWN, fuel};
                }
                int step = routine.steps.get(at);
                at++;
                int needs = step < 12 ? 0 : step < 18 || step == 19 ? 2 : 1;
                if (pile.size() < needs) {
                    return new long[] {BAD, done + 1};
                }
                int upper = needs > 0 ? pile.remove(pile.size() - 1) : 0;
                int lower = needs > 1 ? pile.remove(pile.size() - 1) : 0;
                switch (step) {
                    case 10 -> pile.add(a);
                    case 11 -> pile.add(b);
                    case 12 -> pile.add((int) ((long) lower + upper));
                    case 13 -> pile.add((int) ((long) lower - upper));
                    case 14 -> pile.add((int) ((long) lower * upper));
                    case 15 -> {
                        if (upper == 0) {
                            return new long[] {BAD, done + 1};
                        }
                        pile.add((int) ((long) lower / upper));
                    }
                    case 16 -> pile.add(Math.min(lower, upper));
                    case 17 -> pile.add(Math.max(lower, upper));
                    case 18 -> {
                        pile.add(upper);
                        pile.add(upper);
                    }
                    case 19 -> {
                        pile.add(upper);
                        pile.add(lower);
                    }
                    case 20 -> { }
                    default -> {
                        if (step < 10) {
                            pile.add(step);
                        } else if (upper != 0) {
                            at = step - 21;
                        }
                    }
                }
                if (pile.size() > 8) {
                    return new long[] {BAD, done + 1};
                }
            }
        }

        long limit(int n) {
            int was = fuel;
            if (n < 1 || n > 200) {
                return -1;
            }
            fuel = n;
            return was;
        }

        long ask(int takes) {
            if (takes != 1 && takes != 2) {
                return -1;
            }
            int had = examples.size();
            examples = new ArrayList<>();
            arguments = takes;
            return had;
        }

        long example(int a, int b, long due) {
            if (examples.size() == 8) {
                return -2;
            }
            examples.add(new Example(new Input(a, arguments == 1 ? 0 : b), due));
            return examples.size() - 1;
        }

        long drop() {
            if (examples.isEmpty()) {
                return -3;
            }
            examples.remove(examples.size() - 1);
            return examples.size();
        }

        List<Input> world(int takes) {
            List<Input> all = new ArrayList<>();
            int far = takes == 1 ? 6 : 3;
            for (int a = -far; a <= far; a++) {
                if (takes == 1) {
                    all.add(new Input(a, 0));
                }
                for (int b = -far; takes == 2 && b <= far; b++) {
                    all.add(new Input(a, b));
                }
            }
            return all;
        }

        long like(int r, int n) {
            if (!isRoutine(r) || n < 0 || n > 8) {
                return -1;
            }
            Routine routine = routines.get(r);
            ask(routine.arguments);
            for (Input input : world(arguments).subList(0, n)) {
                long outcome = run(routine, input.a, input.b)[0];
                example(input.a, input.b, outcome == UNKNOWN ? ANY : outcome);
            }
            return n;
        }

        /** The arguments that a way hands on, by the ways' numbers; null for what is no way. */
        Input handed(int way, Input input) {
            if (way < 0 || !isRoutine(way / 100)) {
                return null;
            }
            int takes = routines.get(way / 100).arguments;
            int how = way % 100;
            if (arguments == 2) {
                if (takes == 1) {
                    return how == 0 ? new Input(input.a, 0) : how == 1 ? new Input(input.b, 0) : null;
                }
                return how == 0 ? input : how == 1 ? new Input(input.b, input.a) : null;
            }
            if (takes == 1) {
                return how == 0 ? input : null;
            }
            if (how / 10 == 1) {
                return new Input(how % 10, input.a);
            }
            return how / 10 == 2 ? new Input(input.a, how % 10) : null;
        }

        long would(int number, int a, int b) {
            int way = number % 10000;
            int behind = number / 10000 - 1;
            Input handed = handed(way, new Input(a, b));
            boolean unfit = behind >= 0 && (!isRoutine(behind) || routines.get(behind).arguments != 1);
            if (number < 0 || handed == null || unfit) {
                return NOTHING;
            }
            long outcome = run(routines.get(way / 100), handed.a, handed.b)[0];
            if (behind < 0 || outcome == BAD || outcome == UNKNOWN) {
                return outcome;
            }
            return run(routines.get(behind), (int) outcome, 12345)[0];
        }

        List<Integer> ways() {
            List<Integer> all = new ArrayList<>();
            for (int number = 0; number < 1200; number++) {
                if (handed(number, new Input(0, 0)) != null) {
                    all.add(number);
                }
            }
            return all;
        }

        List<Integer> joints() {
            List<Integer> all = new ArrayList<>();
            for (int s = 0; s < routines.size(); s++) {
                for (int way : ways()) {
                    if (routines.get(s).arguments == 1) {
                        all.add(10000 * (s + 1) + way);
                    }
                }
            }
            return all;
        }

        /** How many examples are missed, and how many may be met. */
        int[] standing(int number) {
            int[] counts = new int[2];
            for (Example example : examples) {
                long outcome = would(number, example.input.a, example.input.b);
                if (example.due != ANY && outcome != example.due) {
                    counts[outcome == UNKNOWN ? 1 : 0]++;
                }
            }
            return counts;
        }

        List<Integer> found(List<Integer> numbers) {
            List<Integer> all = new ArrayList<>();
            for (int number : numbers) {
                int[] standing = standing(number);
                if (standing[0] + standing[1] == 0) {
                    all.add(number);
                }
            }
            return all;
        }

        List<Integer> open() {
            List<Integer> all = new ArrayList<>();
            for (int way : ways()) {
                int[] standing = standing(way);
                if (standing[0] == 0 && standing[1] > 0) {
                    all.add(way);
                }
            }
            return all;
        }

        List<Integer> near() {
            List<Integer> all = new ArrayList<>();
            for (int way : ways()) {
                if (standing(way)[0] > 0) {
                    all.add(way);
                }
            }
            all.sort(Comparator.<Integer>comparingInt(way -> standing(way)[0]).thenComparing(way -> way));
            return all;
        }

        long at(List<Integer> numbers, int k) {
            return k < 0 || k >= numbers.size() ? -3 : numbers.get(k);
        }

        long parting(int what) {
            List<Integer> ways = found(ways());
            if (ways.isEmpty() || what < 0 || what > 3) {
                return -1000;
            }
            long[] best = null;
            for (Input input : world(arguments)) {
                Map<Long, Integer> counts = new TreeMap<>();
                for (int way : ways) {
                    counts.merge(would(way, input.a, input.b), 1, Integer::sum);
                }
                int most = counts.values().stream().mapToInt(n -> n).max().getAsInt();
                if (best == null || most < best[2]) {
                    best = new long[] {input.a, input.b, most, counts.size()};
                }
            }
            return best[what];
        }

        long many(int what) {
            int pairs = 0;
            for (int r = 0; what == 7 && r < routines.size(); r++) {
                for (int s = r + 1; s < routines.size(); s++) {
                    pairs += differ(r, s) == -3 ? 1 : 0;
                }
            }
            return switch (what) {
                case 0 -> routines.size();
                case 1 -> examples.size();
                case 2 -> ways().size();
                case 3 -> found(ways()).size();
                case 4 -> open().size();
                case 5 -> joints().size();
                case 6 -> found(joints()).size();
                case 7 -> pairs;
                case 8 -> written.size();
                case 9 -> arguments;
                default -> -1;
            };
        }

        long differ(int r, int s) {
            if (!isRoutine(r) || !isRoutine(s)) {
                return -1;
            }
            if (routines.get(r).arguments != routines.get(s).arguments) {
                return -4;
            }
            List<Input> world = world(routines.get(r).arguments);
            for (int place = 0; place < world.size(); place++) {
                long one = run(routines.get(r), world.get(place).a, world.get(place).b)[0];
                long other = run(routines.get(s), world.get(place).a, world.get(place).b)[0];
                if (one != other || one == UNKNOWN || other == UNKNOWN) {
                    return place;
                }
            }
            return -3;
        }

        long same(int r, int s) {
            long place = differ(r, s);
            return place == -1 || place == -4 ? place : place == -3 ? 1 : 0;
        }

        long first(int routine) {
            for (int r = 0; r < routines.size(); r++) {
                if (isRoutine(routine) && (r == routine || differ(r, routine) == -3)) {
                    return r;
                }
            }
            return -1;
        }

        long answer(int call, int a, int b, int c) {
            return switch (NAMES[call]) {
                case "step" -> step(a);
                case "scrap" -> scrap();
                case "add" -> add(a);
                case "mend" -> mend(a, b, c);
                case "of" -> of(a, b);
                case "run" -> isRoutine(a) ? run(routines.get(a), b, c)[0] : NOTHING;
                case "fuel" -> isRoutine(a) ? run(routines.get(a), b, c)[1] : -1;
                case "limit" -> limit(a);
                case "ask" -> ask(a);
                case "show" -> example(a, b, c);
                case "leave" -> example(a, b, c % 2 == 0 ? ANY : BAD);
                case "drop" -> drop();
                case "like" -> like(a, b);
                case "would" -> would(a, b, c);
                case "found" -> at(found(ways()), a);
                case "open" -> at(open(), a);
                case "joint" -> at(found(joints()), a);
                case "near" -> at(near(), a);
                case "misses" -> would(a, 0, 0) == NOTHING ? -1 : standing(a)[0];
                case "parting" -> parting(a);
                case "many" -> many(a);
                case "same" -> same(a, b);
                case "differ" -> differ(a, b);
                default -> first(a);
            };
        }
    }

    private static long answer(DoFinder x, int call, int a, int b, int c) {
        return switch (NAMES[call]) {
            case "step" -> x.step(a);
            case "scrap" -> x.scrap();
            case "add" -> x.add(a);
            case "mend" -> x.mend(a, b, c);
            case "of" -> x.of(a, b);
            case "run" -> x.run(a, b, c);
            case "fuel" -> x.fuel(a, b, c);
            case "limit" -> x.limit(a);
            case "ask" -> x.ask(a);
            case "show" -> x.show(a, b, c);
            case "leave" -> x.leave(a, b, c % 2 == 0);
            case "drop" -> x.drop();
            case "like" -> x.like(a, b);
            case "would" -> x.would(a, b, c);
            case "found" -> x.found(a);
            case "open" -> x.open(a);
            case "joint" -> x.joint(a);
            case "near" -> x.near(a);
            case "misses" -> x.misses(a);
            case "parting" -> x.parting(a);
            case "many" -> x.many(a);
            case "same" -> x.same(a, b);
            case "differ" -> x.differ(a, b);
            default -> x.first(a);
        };
    }

    private static final int[] FAR = {Integer.MIN_VALUE, Integer.MIN_VALUE + 9, Integer.MAX_VALUE, -1, 0, 46341, -65536,
        100000, -9999, 10};

    /** A number that a call may be given at random: mostly near what there is, at times far off. */
    private static int number(Random random, int most) {
        if (random.nextInt(25) == 0) {
            return FAR[random.nextInt(FAR.length)];
        }
        return random.nextInt(most + 2) - (random.nextInt(12) == 0 ? 1 : 0);
    }

    private static int input(Random random) {
        return random.nextInt(20) == 0 ? FAR[random.nextInt(FAR.length)] : random.nextInt(13) - 6;
    }

    private static int wayOrJoint(Random random, Model model) {
        int way = 100 * number(random, 11) + new int[] {0, 1, 10, 20, 11, 21, 15, 29, 30, 19}[random.nextInt(10)];
        if (random.nextInt(2) == 0 && !model.ways().isEmpty()) {
            way = model.ways().get(random.nextInt(model.ways().size()));
        }
        return random.nextInt(2) == 0 ? way : way + 10000 * number(random, 12);
    }

    private static int stepNumber(Random random) {
        int sort = random.nextInt(20);
        if (sort < 4) {
            return 10;
        }
        if (sort < 7) {
            return 11;
        }
        if (sort < 11) {
            return random.nextInt(4);
        }
        if (sort < 15) {
            return 12 + random.nextInt(6);
        }
        return sort < 17 ? 18 + random.nextInt(3) : sort < 19 ? 21 + random.nextInt(6) : number(random, 33);
    }

    /** Such a step that what is written mostly makes a routine that isn't BAD. */
    private static int likelyStep(Random random, Model model) {
        return switch (model.written.size()) {
            case 0 -> 10;
            case 1 -> random.nextInt(3) == 0 ? 11 : random.nextInt(3) == 0 ? 10 : random.nextInt(5);
            default -> random.nextInt(2) == 0 ? 12 + random.nextInt(6) : random.nextInt(12);
        };
    }

    private static int[] numbers(Random random, Model model, int call) {
        int r = number(random, 11);
        int s = number(random, 11);
        int i = input(random);
        int j = input(random);
        return switch (NAMES[call]) {
            case "step" -> new int[] {random.nextBoolean() ? likelyStep(random, model) : stepNumber(random), 0, 0};
            case "add", "ask" -> new int[] {random.nextInt(12) == 0 ? number(random, 3) : 1 + random.nextInt(2), 0, 0};
            case "mend" -> new int[] {r, number(random, 6), stepNumber(random)};
            case "of" -> new int[] {r, number(random, 23), 0};
            case "run", "fuel" -> new int[] {r, i, j};
            case "limit" -> new int[] {random.nextInt(2) == 0 ? number(random, 12) : number(random, 201), 0, 0};
            case "show" -> new int[] {i, j,
                random.nextInt(3) == 0 ? i : random.nextInt(2) == 0 ? i + j : input(random)};
            case "leave" -> new int[] {i, j, random.nextInt(2)};
            case "like" -> new int[] {r, number(random, 8), 0};
            case "would", "misses" -> new int[] {wayOrJoint(random, model), i, j};
            case "found", "open", "near" -> new int[] {number(random, random.nextInt(2) == 0 ? 3 : 120), 0, 0};
            case "joint" -> new int[] {number(random, random.nextInt(2) == 0 ? 3 : 400), 0, 0};
            case "parting" -> new int[] {number(random, 4), 0, 0};
            case "many" -> new int[] {number(random, 10), 0, 0};
            case "same", "differ" -> new int[] {r, s, 0};
            default -> new int[] {r, 0, 0};
        };
    }

    /** Steps come often at first, so that there are routines; what ends them comes seldom. */
    private static int call(Random random, int made, Model model) {
        if (random.nextInt(CALLS) > 3 * made && random.nextInt(3) > 0) {
            return model.written.size() > 1 + random.nextInt(6) ? 2 : 0;
        }
        int call = random.nextInt(NAMES.length);
        boolean ends = call == 1 || call == 7 || call == 8 || call == 12;
        return ends && random.nextInt(4) > 0 ? random.nextBoolean() ? 9 : 11 : call;
    }

    private static boolean agree(long seed, int calls) {
        Random random = new Random(seed);
        DoFinder x = new DoFinder();
        Model model = new Model();
        StringBuilder told = new StringBuilder();
        for (int made = 0; made < calls; made++) {
            int call = call(random, made, model);
            int[] n = numbers(random, model, call);
            long want = model.answer(call, n[0], n[1], n[2]);
            long got = answer(x, call, n[0], n[1], n[2]);
            told.append(NAMES[call]).append(' ').append(n[0]).append(' ').append(n[1]).append(' ').append(n[2])
                .append(" -> ").append(got).append('\n');
            if (got != want) {
                System.out.println("seed " + seed + ", due is " + want + " at the end of\n" + told);
                return false;
            }
        }
        return true;
    }

    public static void main(String[] args) {
        int wrong = 0;
        for (long seed = 0; seed < OBJECTS && wrong < 3; seed++) {
            if (!agree(seed, CALLS)) {
                wrong++;
            }
        }
        System.out.println(OBJECTS + " objects held against the model, " + wrong + " wrong");
        if (wrong != 0) {
            System.exit(1);
        }
    }
}
