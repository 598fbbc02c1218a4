import java.util.ArrayList;
import java.util.List;
import java.util.Random;
import java.util.function.IntSupplier;
import java.util.function.ToIntFunction;

/**
 * Runs of calls, drawn with fixed seeds, on a MatchMill and on the Model: both must answer and throw alike. Now and then
 * all is asked for that can be, on other objects that got the same calls, as an object is used for 512 calls alone.
 */
public final class ModelTests {
    private static final int MOST_CALLS = 512;
    // The others are left to ask with.
    private static final int MOST_CALLS_OF_RUN = 440;
    private static final String LEFT_OUT = "left out";

    private static int wrong = 0;
    private static int builds = 0;
    private static int refused = 0;
    private static int greatest = 0;
    private static int longestWay = 0;
    private static int taken = 0;

    private final Random random;
    private final int run;
    private final MatchMill mill = new MatchMill();
    private final Model model = new Model();
    private final List<ToIntFunction<MatchMill>> calls = new ArrayList<>();
    private MatchMill asked = null;
    private int callsOfAsked = 0;
    private int[] constructors = new int[16];
    private int[][] arguments = new int[128][];
    private int types;
    private int numberRange;
    private boolean wide;

    private ModelTests(int run) {
        this.run = run;
        random = new Random(run);
    }

    public static void main(String[] args) {
        for (int run = 0; run < 3000 && wrong < 20; run++) {
            new ModelTests(run).go();
        }
        System.out.println(builds + " builds, " + refused + " refused, up to " + greatest + " questions, "
                + longestWay + " on a way, " + taken + " values taken");
        if (refused < 20 || greatest < 500 || longestWay < 25 || taken < 1000) {
            System.out.println("the runs are too tame");
            wrong++;
        }
        System.out.println(wrong == 0 ? "all answers are as due" : wrong + " answers are not as due");
        if (wrong != 0) {
            System.exit(1);
        }
    }

    private static String outcome(IntSupplier call) {
        try {
            return Integer.toString(call.getAsInt());
        } catch (RuntimeException e) {
            return e.getClass().getName();
        }
    }

    private static boolean isAnswer(String outcome) {
        return !outcome.startsWith("java") && !outcome.equals(LEFT_OUT);
    }

    /** A call of the run; left out for both if it has had enough. */
    private String same(String what, ToIntFunction<MatchMill> ofMill, IntSupplier ofModel) {
        if (calls.size() == MOST_CALLS_OF_RUN) {
            return LEFT_OUT;
        }
        calls.add(ofMill);
        asked = null;
        return compare(what, mill, ofMill, ofModel);
    }

    /** A call that changes nothing, on an object of its own that got the calls of the run before. */
    private void ask(String what, ToIntFunction<MatchMill> ofMill, IntSupplier ofModel) {
        if (asked == null || callsOfAsked == MOST_CALLS) {
            MatchMill again = new MatchMill();
            for (ToIntFunction<MatchMill> call : calls) {
                outcome(() -> call.applyAsInt(again));
            }
            asked = again;
            callsOfAsked = calls.size();
        }
        callsOfAsked++;
        compare(what, asked, ofMill, ofModel);
    }

    private String compare(String what, MatchMill on, ToIntFunction<MatchMill> ofMill, IntSupplier ofModel) {
        String got = outcome(() -> ofMill.applyAsInt(on));
        String want = outcome(ofModel);
        if (!got.equals(want)) {
            wrong++;
            System.out.println("run " + run + ", behind " + calls.size() + " calls: " + what + " answered " + got
                    + ", due is " + want);
        }
        return got;
    }

    private void go() {
        do {
            tellTypes();
            int parts = 1 + random.nextInt(3);
            for (int i = 0; i < parts; i++) {
                cases();
                build();
                values();
                if (random.nextInt(4) == 0) {
                    nonsense();
                }
            }
            if (random.nextInt(3) == 0) {
                same("clear()", x -> { x.clear(); return 0; }, () -> { model.clear(); return 0; });
                observe();
            } else {
                return;
            }
        } while (calls.size() < 350);
    }

    private void tellTypes() {
        numberRange = random.nextInt(3) == 0 ? 40 : 4;
        wide = random.nextInt(3) == 0;
        if (wide) {
            tellWideTypes();
            return;
        }
        types = 1 + random.nextInt(5);
        for (int type = 0; type < types; type++) {
            boolean ofNumbers = type == types - 1 && types > 1 && random.nextInt(4) != 0;
            tellType(type, ofNumbers ? 0 : random.nextInt(4) == 0 ? 1 + random.nextInt(8) : 1 + random.nextInt(3));
            for (int constructor = 0; constructor < constructors[type]; constructor++) {
                tellArguments(type, constructor, constructor == 0 ? random.nextInt(2) * random.nextInt(3) : random.nextInt(5));
            }
        }
    }

    /** Types without recursion and with few constructors, so that ways through their trees are long. */
    private void tellWideTypes() {
        types = 2 + random.nextInt(3);
        for (int type = 0; type < types - 1; type++) {
            tellType(type, random.nextInt(5) == 0 ? 2 : 1);
            for (int constructor = 0; constructor < constructors[type]; constructor++) {
                tellArguments(type, constructor, 2 + random.nextInt(3));
            }
        }
        tellType(types - 1, random.nextInt(4));
        for (int constructor = 0; constructor < constructors[types - 1]; constructor++) {
            tellArguments(types - 1, constructor, 0);
        }
    }

    private void tellType(int type, int count) {
        constructors[type] = count;
        same("type(" + type + ", " + count + ")", x -> { x.type(type, count); return 0; },
                () -> { model.type(type, count); return 0; });
    }

    private void tellArguments(int type, int constructor, int arity) {
        arguments[type * 8 + constructor] = new int[arity];
        for (int i = 0; i < arity; i++) {
            // Later types first, so that most constructors 0 end a value.
            int of = wide || constructor == 0 ? Math.min(types - 1, type + 1) : random.nextInt(types);
            arguments[type * 8 + constructor][i] = of;
            same("argument(" + type + ", " + constructor + ", " + of + ")",
                    x -> x.argument(type, constructor, of), () -> model.argument(type, constructor, of));
        }
    }

    private void cases() {
        int type = random.nextInt(8) == 0 ? random.nextInt(types) : 0;
        int count = 1 + random.nextInt(random.nextInt(3) == 0 ? 18 : 5);
        int budget = wide ? 24 : 2 + random.nextInt(23);
        int names = random.nextInt(3) == 0 ? 0 : random.nextInt(256);
        int eithers = random.nextInt(4);
        int guards = random.nextInt(4);
        for (int i = 0; i < count; i++) {
            pattern(type, budget, names, eithers, 12);
            boolean guarded = random.nextInt(4) < guards;
            if (random.nextInt(30) == 0) {
                same("pop(false)", x -> x.pop(false), () -> model.pop(false));
            } else {
                same("addCase(" + guarded + ")", x -> x.addCase(guarded), () -> model.addCase(guarded));
            }
        }
    }

    /** A pattern of that type, with all of these names if it can be. */
    private void pattern(int type, int budget, int names, int eithers, int depth) {
        int own = names == 0 ? 0 : names & random.nextInt(256) & random.nextInt(256);
        int inside = names & ~own;
        if (budget > 2 && random.nextInt(10) < eithers) {
            int kept = random.nextInt(3) == 0 ? 0 : inside;
            int leftBudget = budget / 2;
            pattern(type, leftBudget, kept, eithers, depth - 1);
            pattern(type, budget - 1 - leftBudget, kept, eithers, depth - 1);
            same("either()", MatchMill::either, model::either);
        } else {
            plainPattern(type, budget, inside, eithers, depth);
        }
        for (int name = 0; name < 8; name++) {
            int n = name;
            if ((own >> name & 1) == 1) {
                same("name(" + n + ")", x -> x.name(n), () -> model.name(n));
            }
        }
    }

    private void plainPattern(int type, int budget, int names, int eithers, int depth) {
        if (budget <= 1 || depth <= 0 || random.nextInt(wide ? 12 : 6) == 0) {
            if (constructors[type] == 0 && random.nextInt(3) != 0) {
                number(type, false);
            } else if (constructors[type] > 0 && arguments[type * 8].length == 0 && random.nextInt(3) == 0) {
                construct(type, 0, false);
            } else {
                same("any(" + type + ")", x -> x.any(type), () -> model.any(type));
            }
            return;
        }
        if (constructors[type] == 0) {
            number(type, false);
            return;
        }
        int constructor = random.nextInt(constructors[type]);
        int[] of = arguments[type * 8 + constructor];
        int left = names;
        for (int i = 0; i < of.length; i++) {
            int some = i == of.length - 1 ? left : left & random.nextInt(256);
            left &= ~some;
            pattern(of[i], (budget - 1) / of.length, some, eithers, depth - 1);
        }
        construct(type, constructor, false);
    }

    private void number(int type, boolean value) {
        int number = random.nextInt(50) == 0 ? Integer.MIN_VALUE + random.nextInt(2) : random.nextInt(numberRange) - 1;
        same("number(" + type + ", " + number + ", " + value + ")",
                x -> x.number(type, number, value), () -> model.number(type, number, value));
    }

    private void construct(int type, int constructor, boolean value) {
        same("make(" + type + ", " + constructor + ", " + value + ")",
                x -> x.make(type, constructor, value), () -> model.make(type, constructor, value));
    }

    private void build() {
        String questions = same("build()", MatchMill::build, model::build);
        if (questions.endsWith("UnsupportedOperationException")) {
            refused++;
        } else if (isAnswer(questions)) {
            builds++;
            greatest = Math.max(greatest, Integer.parseInt(questions));
            longestWay = Math.max(longestWay, model.about(6));
        }
        observe();
    }

    private void values() {
        int count = 1 + random.nextInt(8);
        for (int i = 0; i < count; i++) {
            value(random.nextInt(12) == 0 ? random.nextInt(types) : 0, 1 + random.nextInt(40), 6);
            int guards = random.nextInt();
            String took = same("match(" + guards + ")", x -> x.match(guards), () -> model.match(guards));
            if (isAnswer(took) && !took.equals("-1")) {
                taken++;
            }
            observeMatch();
        }
    }

    private void value(int type, int budget, int depth) {
        if (constructors[type] == 0) {
            number(type, true);
            return;
        }
        int constructor = budget <= 1 || depth <= 0 ? 0 : random.nextInt(constructors[type]);
        int[] of = arguments[type * 8 + constructor];
        for (int i = 0; i < of.length && depth > -3; i++) {
            value(of[i], (budget - 1) / of.length, depth - 1 - i);
        }
        construct(type, constructor, true);
    }

    private int odd(int count) {
        return random.nextInt(10) == 0 ? random.nextInt() : random.nextInt(count + 3) - 1;
    }

    private void nonsense() {
        for (int i = 0; i < 20; i++) {
            int a = odd(16);
            int b = odd(8);
            int c = odd(16);
            boolean value = random.nextBoolean();
            switch (random.nextInt(18)) {
                case 0 -> same("type", x -> { x.type(a, b); return 0; }, () -> { model.type(a, b); return 0; });
                case 1 -> same("argument", x -> x.argument(a, b, c), () -> model.argument(a, b, c));
                case 2 -> same("any", x -> x.any(a), () -> model.any(a));
                case 3 -> same("number", x -> x.number(a, b, value), () -> model.number(a, b, value));
                case 4 -> same("make", x -> x.make(a, b, value), () -> model.make(a, b, value));
                case 5 -> same("either", MatchMill::either, model::either);
                case 6 -> same("name", x -> x.name(b), () -> model.name(b));
                case 7 -> same("pop", x -> x.pop(value), () -> model.pop(value));
                case 8 -> same("addCase", x -> x.addCase(value), () -> model.addCase(value));
                case 9 -> same("build", MatchMill::build, model::build);
                case 10 -> same("match", x -> x.match(a), () -> model.match(a));
                case 11 -> same("asked", x -> x.asked(a), () -> model.asked(a));
                case 12 -> same("bound", x -> x.bound(b), () -> model.bound(b));
                case 13 -> same("boundAt", x -> x.boundAt(b, a), () -> model.boundAt(b, a));
                case 14 -> same("missing", x -> x.missing(a), () -> model.missing(a));
                case 15 -> same("unused", x -> x.unused(a), () -> model.unused(a));
                case 16 -> same("question", x -> x.question(a, b), () -> model.question(a, b));
                default -> same("about", x -> x.about(b), () -> model.about(b));
            }
        }
        observe();
    }

    private void observe() {
        for (int what = -1; what < 8; what++) {
            int w = what;
            ask("about(" + w + ")", x -> x.about(w), () -> model.about(w));
        }
        for (int i = -1; i < 22; i++) {
            int k = i;
            ask("unused(" + k + ")", x -> x.unused(k), () -> model.unused(k));
        }
        for (int i = -1; i < model.lengthOfMissing() + 3; i++) {
            int k = i;
            ask("missing(" + k + ")", x -> x.missing(k), () -> model.missing(k));
        }
        int questions = model.about(3);
        for (int q = -1; q <= questions; q++) {
            for (int what = -1; what < 5; what++) {
                int k = q;
                int w = what;
                ask("question(" + k + ", " + w + ")", x -> x.question(k, w), () -> model.question(k, w));
            }
        }
        observeMatch();
    }

    private void observeMatch() {
        for (int i = -1; i < model.lengthOfAsked() + 3; i++) {
            int k = i;
            ask("asked(" + k + ")", x -> x.asked(k), () -> model.asked(k));
        }
        for (int name = -1; name < 9; name++) {
            int n = name;
            ask("bound(" + n + ")", x -> x.bound(n), () -> model.bound(n));
            for (int i = -1; i < model.lengthOfBound(n) + 3; i++) {
                int k = i;
                ask("boundAt(" + n + ", " + k + ")", x -> x.boundAt(n, k), () -> model.boundAt(n, k));
            }
        }
    }
}
