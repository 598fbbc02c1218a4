import java.util.ArrayList;
import java.util.HashMap;
import java.util.List;
import java.util.Map;
import java.util.Random;

/**
 * What the document's first sentence means, without trees: a case takes a value if its pattern fits, its guard holds and
 * no case before it takes it. Types are drawn with fixed seeds and have so few values (a number stands for all that no
 * pattern has) that what none takes, and which case is never taken, is found by trying them all.
 */
public final class MeaningTests {
    private static final int NONE = MatchMill.NONE;
    private static final int NUMBERS = 3;
    // No pattern has it, so it stands for any other number.
    private static final int OTHER = 7;
    // A value of type 0, its three arguments and two of each of these.
    private static final int MOST_PARTS = 10;
    private static final int MOST_VALUES = 2000;
    // What an object answers behind them is free.
    private static final int MOST_CALLS = 512;

    private enum Kind { NUMBER, CONSTRUCTOR, ANY, EITHER }

    private record Term(Kind kind, int type, int what, List<Term> parts, List<Integer> names) {
        Term(Kind kind, int type, int what, List<Term> parts) {
            this(kind, type, what, parts, new ArrayList<>());
        }

        int size() {
            int sum = 1;
            for (Term part : parts) {
                sum += part.size();
            }
            return sum;
        }

        void tell(List<Integer> told) {
            told.add(kind == Kind.NUMBER ? 0 : 1);
            told.add(what);
            for (Term part : parts) {
                part.tell(told);
            }
        }
    }

    private record Case(Term pattern, boolean guarded) { }

    private static int wrong = 0;
    private static int trees = 0;
    private static int failing = 0;
    private static int withUnused = 0;
    private static int matches = 0;

    private final int run;
    private final Random random;
    private final MatchMill mill = new MatchMill();
    // The types of the arguments, of each constructor of each type.
    private final List<List<List<Integer>>> types = new ArrayList<>();
    private final List<Case> cases = new ArrayList<>();
    private int calls = 0;
    private int longest = 0;

    private MeaningTests(int run) {
        this.run = run;
        random = new Random(run);
    }

    public static void main(String[] args) {
        for (int run = 0; run < 3000 && wrong < 20; run++) {
            new MeaningTests(run).go();
        }
        System.out.println(trees + " trees, " + failing + " that fail, " + withUnused + " with unused cases, "
                + matches + " values");
        if (trees < 1000 || failing < 100 || failing > trees - 100 || withUnused < 100 || matches < 10000) {
            System.out.println("the runs are too tame");
            wrong++;
        }
        System.out.println(wrong == 0 ? "all answers are as due" : wrong + " answers are not as due");
        if (wrong != 0) {
            System.exit(1);
        }
    }

    private void is(String what, int got, int want) {
        if (got != want) {
            wrong++;
            System.out.println("run " + run + ": " + what + " answered " + got + ", due is " + want);
        }
    }

    private void go() {
        drawTypes();
        if (countValues(0) > MOST_VALUES) {
            return;
        }
        tellTypes();
        int count = 1 + random.nextInt(8);
        int names = random.nextInt(256);
        for (int i = 0; i < count; i++) {
            Term pattern = drawPattern(0, 24, names);
            boolean guarded = random.nextInt(3) == 0;
            lay(pattern, false);
            cases.add(new Case(pattern, guarded));
            is("addCase", mill.addCase(guarded), i);
            calls++;
        }
        try {
            mill.build();
        } catch (UnsupportedOperationException e) {
            return;
        }
        calls++;
        trees++;
        List<Term> values = allValues(0);
        noneTakesMissing(values);
        neverTaken(values);
        longest = mill.about(6);
        calls++;
        boolean more = true;
        while (more) {
            more = match(values.get(random.nextInt(values.size())), random.nextInt());
        }
        is("whether the test kept to " + MOST_CALLS + " calls", calls <= MOST_CALLS ? 1 : 0, 1);
    }

    /** An argument is of a later type than what it is an argument of, so there are only so many values. */
    private void drawTypes() {
        for (int type = 0; type < NUMBERS; type++) {
            List<List<Integer>> constructors = new ArrayList<>();
            int count = 1 + random.nextInt(type == 2 ? 4 : 3);
            for (int i = 0; i < count; i++) {
                List<Integer> arguments = new ArrayList<>();
                for (int arity = type == 2 ? 0 : random.nextInt(type == 0 ? 4 : 3); arity > 0; arity--) {
                    arguments.add(type + 1 + random.nextInt(NUMBERS - type));
                }
                constructors.add(arguments);
            }
            types.add(constructors);
        }
        types.add(List.of());
    }

    private void tellTypes() {
        for (int type = 0; type <= NUMBERS; type++) {
            mill.type(type, types.get(type).size());
            calls++;
            for (int i = 0; i < types.get(type).size(); i++) {
                for (int of : types.get(type).get(i)) {
                    mill.argument(type, i, of);
                    calls++;
                }
            }
        }
    }

    private int drawNumber() {
        return random.nextInt(4) - 1;
    }

    /** A pattern of no more than that size, with some of these names. */
    private Term drawPattern(int type, int most, int names) {
        int own = names & random.nextInt(256) & random.nextInt(256) & random.nextInt(256);
        int inside = names & ~own;
        Term pattern;
        if (most >= 3 && random.nextInt(4) == 0) {
            // Without names inside, as both parts must have the same ones; but for one that both have as a whole.
            Term first = drawPattern(type, (most - 1) / 2, 0);
            Term second = drawPattern(type, most - 1 - first.size(), 0);
            pattern = new Term(Kind.EITHER, type, 0, List.of(first, second));
            if (inside != 0) {
                nameInParts(first, second, Integer.numberOfTrailingZeros(inside));
            }
        } else if (random.nextInt(5) == 0) {
            pattern = new Term(Kind.ANY, type, 0, List.of());
        } else if (type == NUMBERS) {
            pattern = new Term(Kind.NUMBER, type, drawNumber(), List.of());
        } else {
            pattern = drawConstructor(type, most, inside);
        }
        for (int name = 0; name < 8; name++) {
            if ((own >> name & 1) == 1) {
                pattern.names.add(name);
            }
        }
        return pattern;
    }

    /** The name comes to some part of each, which may be at different places. */
    private void nameInParts(Term first, Term second, int name) {
        for (Term part : List.of(first, second)) {
            Term at = part;
            while (at.kind == Kind.CONSTRUCTOR && !at.parts.isEmpty() && random.nextInt(4) != 0) {
                at = at.parts.get(random.nextInt(at.parts.size()));
            }
            at.names.add(name);
        }
    }

    private Term drawConstructor(int type, int most, int names) {
        int constructor = random.nextInt(types.get(type).size());
        List<Integer> of = types.get(type).get(constructor);
        if (of.size() >= most) {
            return new Term(Kind.ANY, type, 0, List.of());
        }
        List<Term> parts = new ArrayList<>();
        int left = names;
        int room = most - 1;
        for (int i = 0; i < of.size(); i++) {
            int some = left & random.nextInt(256);
            left &= ~some;
            Term part = drawPattern(of.get(i), room - (of.size() - 1 - i), some);
            room -= part.size();
            parts.add(part);
        }
        return new Term(Kind.CONSTRUCTOR, type, constructor, parts);
    }

    /** Makes it on its pile. */
    private void lay(Term term, boolean value) {
        for (Term part : term.parts) {
            lay(part, value);
        }
        switch (term.kind) {
            case NUMBER -> mill.number(term.type, term.what, value);
            case CONSTRUCTOR -> mill.make(term.type, term.what, value);
            case ANY -> mill.any(term.type);
            default -> mill.either();
        }
        for (int name : term.names) {
            mill.name(name);
        }
        calls += 1 + term.names.size();
    }

    private long countValues(int type) {
        if (type == NUMBERS) {
            return 5;
        }
        long sum = 0;
        for (List<Integer> arguments : types.get(type)) {
            long product = 1;
            for (int of : arguments) {
                product *= countValues(of);
            }
            sum += product;
        }
        return sum;
    }

    private List<Term> allValues(int type) {
        List<Term> values = new ArrayList<>();
        if (type == NUMBERS) {
            for (int number : new int[] {-1, 0, 1, 2, OTHER}) {
                values.add(new Term(Kind.NUMBER, type, number, List.of()));
            }
            return values;
        }
        for (int i = 0; i < types.get(type).size(); i++) {
            List<List<Term>> rows = new ArrayList<>();
            rows.add(List.of());
            for (int of : types.get(type).get(i)) {
                rows = longer(rows, allValues(of));
            }
            for (List<Term> parts : rows) {
                values.add(new Term(Kind.CONSTRUCTOR, type, i, parts));
            }
        }
        return values;
    }

    private static List<List<Term>> longer(List<List<Term>> rows, List<Term> ends) {
        List<List<Term>> result = new ArrayList<>();
        for (List<Term> row : rows) {
            for (Term end : ends) {
                List<Term> more = new ArrayList<>(row);
                more.add(end);
                result.add(more);
            }
        }
        return result;
    }

    /** Whether the pattern fits; of an either the first part that does. What its names have comes to the others. */
    private static boolean fits(Term pattern, Term value, Map<Integer, Term> bound) {
        for (int name : pattern.names) {
            bound.put(name, value);
        }
        switch (pattern.kind) {
            case ANY:
                return true;
            case EITHER:
                for (Term part : pattern.parts) {
                    Map<Integer, Term> inside = new HashMap<>(bound);
                    if (fits(part, value, inside)) {
                        bound.putAll(inside);
                        return true;
                    }
                }
                return false;
            default:
                if (pattern.what != value.what) {
                    return false;
                }
                for (int i = 0; i < pattern.parts.size(); i++) {
                    if (!fits(pattern.parts.get(i), value.parts.get(i), bound)) {
                        return false;
                    }
                }
                return true;
        }
    }

    private int taker(Term value, int guards, Map<Integer, Term> bound) {
        for (int i = 0; i < cases.size(); i++) {
            bound.clear();
            boolean holds = !cases.get(i).guarded || (guards >> i & 1) == 1;
            if (holds && fits(cases.get(i).pattern, value, bound)) {
                return i;
            }
        }
        bound.clear();
        return NONE;
    }

    /** If no value is left the tree never fails; otherwise none takes what fits MISSING. */
    private void noneTakesMissing(List<Term> values) {
        List<Integer> missing = missing();
        boolean left = false;
        boolean found = false;
        for (Term value : values) {
            boolean untaken = taker(value, 0, new HashMap<>()) == NONE;
            left |= untaken;
            if (!missing.isEmpty() && endOfFit(missing, 0, value) == missing.size()) {
                found = true;
                is("whether none takes what is missing", untaken ? 1 : 0, 1);
            }
        }
        is("whether the tree fails", mill.about(5) > 0 ? 1 : 0, left ? 1 : 0);
        calls++;
        is("whether there is something missing", missing.isEmpty() ? 0 : 1, left ? 1 : 0);
        is("whether some value fits what is missing", found ? 1 : 0, left ? 1 : 0);
        failing += left ? 1 : 0;
    }

    /** No more numbers than two for each part of a value. */
    private List<Integer> missing() {
        List<Integer> told = new ArrayList<>();
        int most = 2 * MOST_PARTS;
        // A number may be NONE too, but what is told of a value has two numbers, of which the first is no NONE.
        while (told.size() < most && mill.missing(told.size()) != NONE) {
            told.add(mill.missing(told.size()));
            told.add(mill.missing(told.size()));
            calls += 3;
        }
        calls++;
        return told;
    }

    /** Where what is told of MISSING goes on behind this value; NONE if it does not fit. */
    private static int endOfFit(List<Integer> missing, int start, Term value) {
        if (start + 1 >= missing.size()) {
            return NONE;
        }
        int kind = missing.get(start);
        int what = missing.get(start + 1);
        if (kind == 2) {
            return start + 2;
        }
        // The least other number may be 3, which the values have not.
        boolean other = value.what == OTHER && what > 2;
        if (kind != (value.kind == Kind.NUMBER ? 0 : 1) || what != value.what && !other) {
            return NONE;
        }
        int at = start + 2;
        for (int i = 0; i < value.parts.size() && at != NONE; i++) {
            at = endOfFit(missing, at, value.parts.get(i));
        }
        return at;
    }

    /** A case is unused if it takes no value even when no other guard holds. */
    private void neverTaken(List<Term> values) {
        int unused = 0;
        for (int i = 0; i < cases.size(); i++) {
            boolean takes = false;
            for (Term value : values) {
                takes |= taker(value, 1 << i, new HashMap<>()) == i;
            }
            if (!takes) {
                is("unused(" + unused + ")", mill.unused(unused), i);
                calls++;
                unused++;
            }
        }
        is("unused(" + unused + ")", mill.unused(unused), NONE);
        calls++;
        withUnused += unused > 0 ? 1 : 0;
    }

    /** Leads the value through the tree and looks at what is answered; false if that would be too many calls. */
    private boolean match(Term value, int guards) {
        Map<Integer, Term> bound = new HashMap<>();
        int due = taker(value, guards, bound);
        List<List<Integer>> told = new ArrayList<>();
        int cost = value.size() + 1 + 2 * longest + 1;
        for (int name = 0; name < 8; name++) {
            told.add(new ArrayList<>());
            if (bound.containsKey(name)) {
                bound.get(name).tell(told.get(name));
            }
            cost += 2 + told.get(name).size();
        }
        if (calls + cost > MOST_CALLS) {
            return false;
        }
        lay(value, true);
        is("match(" + guards + ")", mill.match(guards), due);
        calls++;
        matches++;
        for (int name = 0; name < 8; name++) {
            boundIs(name, told.get(name));
        }
        askedInOrder();
        return true;
    }

    private void boundIs(int name, List<Integer> told) {
        is("bound(" + name + ")", mill.bound(name), told.size());
        for (int i = 0; i < told.size(); i++) {
            is("boundAt(" + name + ", " + i + ")", mill.boundAt(name, i), told.get(i));
        }
        is("boundAt(" + name + ", " + told.size() + ")", mill.boundAt(name, told.size()), NONE);
        calls += 2 + told.size();
    }

    /** The first is question 0, and each is behind the one before. */
    private void askedInOrder() {
        int before = NONE;
        for (int i = 0; i <= longest; i++) {
            int question = mill.asked(i);
            calls++;
            if (question == NONE) {
                return;
            }
            is("whether asked(" + i + ") is a later question", question > before ? 1 : 0, 1);
            is("question(" + question + ", 2)", mill.question(question, 2), i);
            calls++;
            before = question;
        }
        is("whether no way is longer than about(6)", 0, 1);
    }
}
