import java.util.function.Consumer;
import java.util.function.ToIntFunction;

/**
 * Two objects that get the same calls, but that one of them alone gets the calls that are refused. A call that throws
 * changes nothing, so both must answer alike until the end; end() then asks for all that can be asked for.
 */
final class Twins {
    static final Class<IllegalArgumentException> ARGUMENT = IllegalArgumentException.class;
    static final Class<IllegalStateException> STATE = IllegalStateException.class;
    static final Class<UnsupportedOperationException> UNSUPPORTED = UnsupportedOperationException.class;
    static final int NONE = MatchMill.NONE;

    // What is answered behind them is free.
    private static final int MOST_CALLS = 512;
    // No answer that is due anywhere in these tests.
    private static final int THREW = 0x7ead7ead;

    private static int wrong = 0;

    private final String sentence;
    private final MatchMill tried = new MatchMill();
    private final MatchMill spared = new MatchMill();
    private int calls = 0;
    private String latest = "";

    /** The sentence of the document that the calls are about. */
    Twins(String sentence) {
        this.sentence = sentence;
    }

    /** Ends the program, with code 1 if an answer was not as due. */
    static void report() {
        System.out.println(wrong == 0 ? "all answers are as due" : wrong + " answers are not as due");
        if (wrong != 0) {
            System.exit(1);
        }
    }

    int calls() {
        return calls;
    }

    void is(String what, int got, int want) {
        if (got != want) {
            complain(what + " answered " + shown(got) + ", due is " + want);
        }
    }

    /** The call throws that; the other object does not get it. */
    void refuses(String what, Class<? extends RuntimeException> due, Consumer<MatchMill> call) {
        calls++;
        if (calls > MOST_CALLS) {
            complain("the test itself makes more than " + MOST_CALLS + " calls");
        }
        String got = outcome(mill -> {
            call.accept(mill);
            return 0;
        }, tried);
        if (!got.equals(due.getName())) {
            complain(what + " answered " + got + ", due is " + due.getName());
        }
    }

    void type(int type, int constructors) {
        both("type(" + type + ", " + constructors + ")", mill -> {
            mill.type(type, constructors);
            return 0;
        });
    }

    int argument(int type, int constructor, int of) {
        return both("argument(" + type + ", " + constructor + ", " + of + ")",
                mill -> mill.argument(type, constructor, of));
    }

    int any(int type) {
        return both("any(" + type + ")", mill -> mill.any(type));
    }

    int number(int type, int number, boolean value) {
        return both("number(" + type + ", " + number + ", " + value + ")", mill -> mill.number(type, number, value));
    }

    int make(int type, int constructor, boolean value) {
        return both("make(" + type + ", " + constructor + ", " + value + ")",
                mill -> mill.make(type, constructor, value));
    }

    int either() {
        return both("either()", MatchMill::either);
    }

    int name(int name) {
        return both("name(" + name + ")", mill -> mill.name(name));
    }

    int pop(boolean value) {
        return both("pop(" + value + ")", mill -> mill.pop(value));
    }

    int addCase(boolean guarded) {
        return both("addCase(" + guarded + ")", mill -> mill.addCase(guarded));
    }

    int build() {
        return both("build()", MatchMill::build);
    }

    int match(int guards) {
        return both("match(" + guards + ")", mill -> mill.match(guards));
    }

    int asked(int i) {
        return both("asked(" + i + ")", mill -> mill.asked(i));
    }

    int bound(int name) {
        return both("bound(" + name + ")", mill -> mill.bound(name));
    }

    int boundAt(int name, int i) {
        return both("boundAt(" + name + ", " + i + ")", mill -> mill.boundAt(name, i));
    }

    int missing(int i) {
        return both("missing(" + i + ")", mill -> mill.missing(i));
    }

    int unused(int i) {
        return both("unused(" + i + ")", mill -> mill.unused(i));
    }

    int question(int question, int what) {
        return both("question(" + question + ", " + what + ")", mill -> mill.question(question, what));
    }

    int about(int what) {
        return both("about(" + what + ")", mill -> mill.about(what));
    }

    void clear() {
        both("clear()", mill -> {
            mill.clear();
            return 0;
        });
    }

    /** about(0), about(1), .. are these. */
    void aboutIs(int... due) {
        for (int what = 0; what < due.length; what++) {
            is("about(" + what + ")", about(what), due[what]);
        }
    }

    void askedIs(int... due) {
        for (int i = 0; i < due.length; i++) {
            is("asked(" + i + ")", asked(i), due[i]);
        }
        is("asked(" + due.length + ")", asked(due.length), NONE);
    }

    void boundIs(int name, int... told) {
        is("bound(" + name + ")", bound(name), told.length);
        for (int i = 0; i < told.length; i++) {
            is("boundAt(" + name + ", " + i + ")", boundAt(name, i), told[i]);
        }
        is("boundAt(" + name + ", " + told.length + ")", boundAt(name, told.length), NONE);
    }

    void missingIs(int... told) {
        for (int i = 0; i < told.length; i++) {
            is("missing(" + i + ")", missing(i), told[i]);
        }
        is("missing(" + told.length + ")", missing(told.length), NONE);
    }

    void unusedIs(int... due) {
        for (int i = 0; i < due.length; i++) {
            is("unused(" + i + ")", unused(i), due[i]);
        }
        is("unused(" + due.length + ")", unused(due.length), NONE);
    }

    /** question(question, 0), question(question, 1), .. are these. */
    void questionIs(int question, int... due) {
        for (int what = 0; what < due.length; what++) {
            is("question(" + question + ", " + what + ")", question(question, what), due[what]);
        }
    }

    /** Both objects tell the same of what they hold, as far as the calls go; they are used up by that. */
    void end() {
        look();
        lookAtTypes();
        lookAtValues();
        lookAtPatterns();
        alike("build()", MatchMill::build);
        look();
    }

    private void look() {
        for (int what = 0; what < 7; what++) {
            int w = what;
            alike("about(" + w + ")", mill -> mill.about(w));
        }
        lookUntil(NONE, "unused", MatchMill::unused);
        lookAtMatch();
        for (int what = 0; what < 4; what++) {
            int w = what;
            lookUntil(THREW, "question with " + w, (mill, question) -> mill.question(question, w));
        }
        lookUntil(NONE, "missing", MatchMill::missing);
    }

    private void lookAtMatch() {
        lookUntil(NONE, "asked", MatchMill::asked);
        for (int name = 0; name < 8; name++) {
            int n = name;
            alike("bound(" + n + ")", mill -> mill.bound(n));
            lookUntil(NONE, "boundAt of name " + n, (mill, i) -> mill.boundAt(n, i));
        }
    }

    private void lookAtTypes() {
        for (int type = 0; type < 16; type++) {
            int t = type;
            alike("type(" + t + ", 1)", mill -> {
                mill.type(t, 1);
                return 0;
            });
            lookUntil(THREW, "argument of type " + t, (mill, constructor) -> mill.argument(t, constructor, t));
        }
    }

    private void lookAtValues() {
        for (int i = 0; i < 40; i++) {
            if (alike("match(-1)", mill -> mill.match(-1)) == THREW
                    && alike("pop(true)", mill -> mill.pop(true)) == 0) {
                return;
            }
            if (i == 0) {
                lookAtMatch();
            }
        }
    }

    private void lookAtPatterns() {
        for (int i = 0; i < 40; i++) {
            alike("name(7)", mill -> mill.name(7));
            if (alike("addCase(false)", mill -> mill.addCase(false)) == THREW
                    && alike("pop(false)", mill -> mill.pop(false)) == 0) {
                return;
            }
        }
    }

    private interface At {
        int of(MatchMill mill, int i);
    }

    /** At 0, 1, .. until that is answered. */
    private void lookUntil(int last, String what, At at) {
        for (int i = 0; i < MOST_CALLS; i++) {
            int k = i;
            if (alike(what + " at " + k, mill -> at.of(mill, k)) == last) {
                return;
            }
        }
    }

    /** Both must answer this; no exception is due. */
    private int both(String what, ToIntFunction<MatchMill> call) {
        if (calls >= MOST_CALLS) {
            complain("the test itself makes more than " + MOST_CALLS + " calls");
            return THREW;
        }
        int answer = alike(what, call);
        if (answer == THREW) {
            complain(what + " throws " + latest);
        }
        return answer;
    }

    /** What both answer, be it that they throw; nothing is called when all calls are used up. */
    private int alike(String what, ToIntFunction<MatchMill> call) {
        if (calls >= MOST_CALLS) {
            return THREW;
        }
        calls++;
        String ofSpared = outcome(call, spared);
        latest = outcome(call, tried);
        if (!latest.equals(ofSpared)) {
            complain(what + " answered " + latest + ", but " + ofSpared + " without the refused calls");
        }
        return latest.startsWith("java") ? THREW : Integer.parseInt(latest);
    }

    private static String outcome(ToIntFunction<MatchMill> call, MatchMill mill) {
        try {
            return Integer.toString(call.applyAsInt(mill));
        } catch (RuntimeException e) {
            return e.getClass().getName();
        }
    }

    private static String shown(int answer) {
        return answer == THREW ? "nothing" : Integer.toString(answer);
    }

    private void complain(String text) {
        wrong++;
        System.out.println(sentence + ": " + text);
    }
}
