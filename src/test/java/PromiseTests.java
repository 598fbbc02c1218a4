/** Each promise of the document by hand: ordinary calls, the edges that it names, and wrong inputs. */
public final class PromiseTests {
    private static final Class<IllegalArgumentException> ARGUMENT = IllegalArgumentException.class;
    private static final Class<IllegalStateException> STATE = IllegalStateException.class;
    private static final Class<UnsupportedOperationException> UNSUPPORTED = UnsupportedOperationException.class;
    private static final int NONE = MatchMill.NONE;

    private static int wrong = 0;
    private static String part = "";

    public static void main(String[] args) {
        promise1();
        promise2();
        promise3();
        promise4();
        promise5();
        promise6();
        promise6Names();
        promise6Sizes();
        promise7();
        promise8();
        promise9();
        promise10();
        promise11();
        promise11Rows();
        promise11RowsAtOnce();
        promise11AllRows();
        promise11LongWay();
        promise12();
        promise12Eithers();
        promise13();
        promise14();
        promise14Eithers();
        promise14RowOrder();
        promise15();
        promise16();
        promise16Numbers();
        promise16Guards();
        promise16LeftPlaces();
        promise17();
        promise18();
        promise18Order();
        promise19();
        promise20();
        System.out.println(wrong == 0 ? "all answers are as due" : wrong + " answers are not as due");
        if (wrong != 0) {
            System.exit(1);
        }
    }

    private static void is(String what, int got, int want) {
        if (got != want) {
            wrong++;
            System.out.println(part + ": " + what + " answered " + got + ", due is " + want);
        }
    }

    private static void refuses(String what, Class<? extends RuntimeException> due, Runnable call) {
        String got = "nothing";
        try {
            call.run();
        } catch (RuntimeException e) {
            got = e.getClass().getSimpleName();
        }
        if (!got.equals(due.getSimpleName())) {
            wrong++;
            System.out.println(part + ": " + what + " throws " + got + ", due is " + due.getSimpleName());
        }
    }

    /** Type 0: lists, of constructor 0 (end) and 1 (a number, a list). Type 1: numbers. Type 2: three constructors. */
    private static MatchMill lists() {
        MatchMill mill = new MatchMill();
        mill.type(0, 2);
        mill.argument(0, 1, 1);
        mill.argument(0, 1, 0);
        mill.type(1, 0);
        mill.type(2, 3);
        return mill;
    }

    /** Type 0: one constructor with arguments of types 1, 1 and 2. Type 1: constructors 0 and 1. Type 2: numbers. */
    private static MatchMill triples() {
        MatchMill mill = new MatchMill();
        mill.type(0, 1);
        mill.argument(0, 0, 1);
        mill.argument(0, 0, 1);
        mill.argument(0, 0, 2);
        mill.type(1, 2);
        mill.type(2, 0);
        return mill;
    }

    /** A list of these numbers; a pattern ends with any. */
    private static void list(MatchMill mill, boolean value, int... numbers) {
        for (int number : numbers) {
            mill.number(1, number, value);
        }
        if (value) {
            mill.make(0, 0, true);
        } else {
            mill.any(0);
        }
        for (int i = 0; i < numbers.length; i++) {
            mill.make(0, 1, value);
        }
    }

    /** Constructors of type 1 for the first two, any for NONE; a number for the third, any for NONE. */
    private static void triple(MatchMill mill, boolean value, int first, int second, int third) {
        leaf(mill, value, first);
        leaf(mill, value, second);
        if (third == NONE) {
            mill.any(2);
        } else {
            mill.number(2, third, value);
        }
        mill.make(0, 0, value);
    }

    private static void leaf(MatchMill mill, boolean value, int constructor) {
        if (constructor == NONE) {
            mill.any(1);
        } else {
            mill.make(1, constructor, value);
        }
    }

    private static void missingIs(MatchMill mill, int... told) {
        for (int i = 0; i < told.length; i++) {
            is("missing(" + i + ")", mill.missing(i), told[i]);
        }
        is("missing(" + told.length + ")", mill.missing(told.length), NONE);
    }

    private static void boundIs(MatchMill mill, int name, int... told) {
        is("bound(" + name + ")", mill.bound(name), told.length);
        for (int i = 0; i < told.length; i++) {
            is("boundAt(" + name + ", " + i + ")", mill.boundAt(name, i), told[i]);
        }
        is("boundAt(" + name + ", " + told.length + ")", mill.boundAt(name, told.length), NONE);
    }

    private static void askedIs(MatchMill mill, int... questions) {
        for (int i = 0; i < questions.length; i++) {
            is("asked(" + i + ")", mill.asked(i), questions[i]);
        }
        is("asked(" + questions.length + ")", mill.asked(questions.length), NONE);
    }

    private static void questionIs(MatchMill mill, int question, int rows, int answers, int before, int distance) {
        is("question(" + question + ", 0)", mill.question(question, 0), rows);
        is("question(" + question + ", 1)", mill.question(question, 1), answers);
        is("question(" + question + ", 2)", mill.question(question, 2), before);
        is("question(" + question + ", 3)", mill.question(question, 3), distance);
    }

    private static void isNew(MatchMill mill) {
        for (int what = 0; what < 7; what++) {
            is("about(" + what + ")", mill.about(what), 0);
        }
        for (int type = 0; type < 16; type++) {
            int t = type;
            refuses("any of an untold type", ARGUMENT, () -> mill.any(t));
        }
        is("pop(false)", mill.pop(false), 0);
        is("pop(true)", mill.pop(true), 0);
        is("asked(0)", mill.asked(0), NONE);
        is("missing(0)", mill.missing(0), NONE);
        is("unused(0)", mill.unused(0), NONE);
        for (int name = 0; name < 8; name++) {
            is("bound(" + name + ")", mill.bound(name), 0);
            is("boundAt(" + name + ", 0)", mill.boundAt(name, 0), NONE);
        }
        refuses("question", ARGUMENT, () -> mill.question(0, 0));
        refuses("build", STATE, mill::build);
        refuses("match", STATE, () -> mill.match(0));
        refuses("addCase", STATE, () -> mill.addCase(false));
        refuses("either", STATE, mill::either);
        refuses("name", STATE, () -> mill.name(0));
    }

    private static void promise1() {
        part = "promise 1";
        is("NONE", NONE, -1);
        isNew(new MatchMill());
        MatchMill one = lists();
        one.any(0);
        isNew(new MatchMill());
    }

    private static void promise2() {
        part = "promise 2";
        MatchMill mill = new MatchMill();
        refuses("type -1", ARGUMENT, () -> mill.type(-1, 1));
        refuses("type 16", ARGUMENT, () -> mill.type(16, 1));
        refuses("-1 constructors", ARGUMENT, () -> mill.type(0, -1));
        refuses("9 constructors", ARGUMENT, () -> mill.type(0, 9));
        mill.type(0, 8);
        mill.type(15, 1);
        mill.type(1, 0);
        refuses("told already", STATE, () -> mill.type(0, 8));
        refuses("told already, of numbers", STATE, () -> mill.type(1, 3));
        refuses("told already, but 9 constructors", ARGUMENT, () -> mill.type(0, 9));
        is("make(0, 7)", mill.make(0, 7, false), 1);
        refuses("a pattern was made", STATE, () -> mill.type(2, 1));
        refuses("a pattern was made, but there is no type 16", ARGUMENT, () -> mill.type(16, 1));
        is("pop", mill.pop(false), 1);
        refuses("a pattern was made, though it is gone", STATE, () -> mill.type(2, 1));
        refuses("not told yet", ARGUMENT, () -> mill.any(2));
        MatchMill other = new MatchMill();
        other.type(3, 0);
        refuses("a number of an untold type", ARGUMENT, () -> other.number(4, 1, true));
        other.type(4, 1);
        other.number(3, 1, true);
        refuses("a value was made", STATE, () -> other.type(5, 1));
    }

    private static void promise3() {
        part = "promise 3";
        MatchMill mill = new MatchMill();
        refuses("an untold type", ARGUMENT, () -> mill.argument(0, 0, 0));
        mill.type(0, 2);
        mill.type(1, 0);
        refuses("type -1", ARGUMENT, () -> mill.argument(-1, 0, 0));
        refuses("type 16", ARGUMENT, () -> mill.argument(16, 0, 0));
        refuses("constructor -1", ARGUMENT, () -> mill.argument(0, -1, 0));
        refuses("constructor 2", ARGUMENT, () -> mill.argument(0, 2, 0));
        refuses("a constructor of numbers", ARGUMENT, () -> mill.argument(1, 0, 0));
        refuses("of type -1", ARGUMENT, () -> mill.argument(0, 0, -1));
        refuses("of type 16", ARGUMENT, () -> mill.argument(0, 0, 16));
        is("argument of itself", mill.argument(0, 0, 0), 1);
        is("argument of a type not told yet", mill.argument(0, 0, 15), 2);
        is("third argument", mill.argument(0, 0, 1), 3);
        is("argument of the other constructor", mill.argument(0, 1, 1), 1);
        is("fourth argument", mill.argument(0, 0, 1), 4);
        refuses("fifth argument", STATE, () -> mill.argument(0, 0, 1));
        refuses("fifth argument of type 16", ARGUMENT, () -> mill.argument(0, 0, 16));
        mill.any(0);
        refuses("a pattern was made", STATE, () -> mill.argument(0, 1, 1));
        refuses("a pattern was made, but there is no constructor 2", ARGUMENT, () -> mill.argument(0, 2, 1));
        mill.number(1, 5, false);
        is("the second constructor has one argument", mill.make(0, 1, false), 2);
        is("size", mill.pop(false), 2);
    }

    private static void promise4() {
        part = "promise 4";
        MatchMill mill = lists();
        refuses("type -1", ARGUMENT, () -> mill.any(-1));
        refuses("type 16", ARGUMENT, () -> mill.any(16));
        refuses("an untold type", ARGUMENT, () -> mill.any(3));
        for (int i = 1; i <= 40; i++) {
            is("any", mill.any(i % 3), i);
        }
        refuses("a full pile", STATE, () -> mill.any(0));
        refuses("a full pile and an untold type", ARGUMENT, () -> mill.any(3));
        is("patterns", mill.about(1), 40);
        is("values", mill.about(2), 0);
        is("size", mill.pop(false), 1);
        is("room again", mill.any(1), 40);
    }

    private static void promise5() {
        part = "promise 5";
        MatchMill mill = lists();
        refuses("type -1", ARGUMENT, () -> mill.number(-1, 0, true));
        refuses("type 16", ARGUMENT, () -> mill.number(16, 0, true));
        refuses("an untold type", ARGUMENT, () -> mill.number(3, 0, false));
        refuses("a type with constructors", ARGUMENT, () -> mill.number(0, 0, false));
        for (int i = 1; i <= 40; i++) {
            is("number as value", mill.number(1, -i, true), i);
        }
        refuses("a full pile of values", STATE, () -> mill.number(1, 0, true));
        refuses("a full pile of values, not of numbers", ARGUMENT, () -> mill.number(0, 0, true));
        for (int i = 1; i <= 40; i++) {
            is("number as pattern", mill.number(1, i, false), i);
        }
        refuses("a full pile of patterns", STATE, () -> mill.number(1, 0, false));
        MatchMill numbers = lists();
        numbers.number(1, Integer.MIN_VALUE, false);
        numbers.addCase(false);
        numbers.number(1, Integer.MAX_VALUE, false);
        numbers.addCase(false);
        numbers.build();
        numbers.number(1, Integer.MAX_VALUE, true);
        numbers.number(1, Integer.MIN_VALUE, true);
        is("the least number", numbers.match(0), 0);
        is("the greatest number", numbers.match(0), 1);
    }

    private static void promise6() {
        part = "promise 6";
        MatchMill mill = lists();
        refuses("type -1", ARGUMENT, () -> mill.make(-1, 0, true));
        refuses("type 16", ARGUMENT, () -> mill.make(16, 0, true));
        refuses("an untold type", ARGUMENT, () -> mill.make(3, 0, true));
        refuses("numbers", ARGUMENT, () -> mill.make(1, 0, true));
        refuses("constructor -1", ARGUMENT, () -> mill.make(0, -1, true));
        refuses("constructor 2", ARGUMENT, () -> mill.make(0, 2, true));
        refuses("no parts", STATE, () -> mill.make(0, 1, true));
        is("an end", mill.make(0, 0, true), 1);
        refuses("one part", STATE, () -> mill.make(0, 1, true));
        mill.number(1, 4, true);
        refuses("parts the wrong way round", STATE, () -> mill.make(0, 1, true));
        is("values", mill.about(2), 2);
        mill.make(0, 0, true);
        is("number and list", mill.make(0, 1, true), 2);
        is("its size", mill.pop(true), 3);
        is("the other's size", mill.pop(true), 1);
        mill.number(1, 4, false);
        mill.make(0, 0, true);
        refuses("parts on different piles", STATE, () -> mill.make(0, 1, false));
        is("patterns", mill.about(1), 1);
        for (int i = 2; i <= 40; i++) {
            is("ends", mill.make(0, 0, true), i);
        }
        refuses("a full pile", STATE, () -> mill.make(0, 0, true));
        refuses("a full pile and no constructor", ARGUMENT, () -> mill.make(0, 2, true));
        mill.pop(true);
        mill.pop(true);
        mill.number(1, 4, true);
        mill.make(0, 0, true);
        is("a full pile gives the parts", mill.make(0, 1, true), 39);
        MatchMill untold = new MatchMill();
        untold.type(0, 1);
        untold.argument(0, 0, 5);
        untold.any(0);
        refuses("an argument of a type that is not told", STATE, () -> untold.make(0, 0, false));
    }

    private static void promise6Names() {
        part = "promise 6, names";
        MatchMill mill = lists();
        mill.any(1);
        mill.name(3);
        mill.any(0);
        mill.name(3);
        refuses("a name would stand twice", STATE, () -> mill.make(0, 1, false));
        is("patterns", mill.about(1), 2);
        mill.pop(false);
        mill.any(0);
        mill.name(4);
        is("other names", mill.make(0, 1, false), 1);
        is("names together", mill.name(5), 3);
        MatchMill far = triples();
        far.any(1);
        far.name(0);
        far.any(1);
        far.any(2);
        far.name(0);
        refuses("the same name in the first and the third", STATE, () -> far.make(0, 0, false));
    }

    private static void promise6Sizes() {
        part = "promise 6, sizes";
        MatchMill mill = new MatchMill();
        mill.type(0, 3);
        mill.argument(0, 1, 0);
        mill.argument(0, 2, 0);
        mill.argument(0, 2, 0);
        mill.any(0);
        mill.make(0, 0, true);
        for (int size = 2; size <= 24; size++) {
            is("make", mill.make(0, 1, false), 1);
        }
        refuses("a pattern of size 25", STATE, () -> mill.make(0, 1, false));
        is("a name adds none", mill.name(1), 1);
        is("size of the pattern", mill.pop(false), 24);
        for (int size = 2; size <= 60; size++) {
            is("make", mill.make(0, 1, true), 1);
        }
        refuses("a value of size 61", STATE, () -> mill.make(0, 1, true));
        is("size of the value", mill.pop(true), 60);
        for (int i = 0; i < 2; i++) {
            mill.any(0);
            for (int size = 2; size <= 11 + i; size++) {
                mill.make(0, 1, false);
            }
        }
        is("11 and 12 and 1", mill.make(0, 2, false), 1);
        is("size of both", mill.pop(false), 24);
        for (int i = 0; i < 2; i++) {
            mill.any(0);
            for (int size = 2; size <= 12; size++) {
                mill.make(0, 1, false);
            }
        }
        refuses("12 and 12 and 1", STATE, () -> mill.make(0, 2, false));
        is("patterns", mill.about(1), 2);
    }

    private static void promise7() {
        part = "promise 7";
        MatchMill mill = lists();
        refuses("none", STATE, mill::either);
        mill.number(1, 7, false);
        refuses("one", STATE, mill::either);
        mill.any(0);
        refuses("different types", STATE, mill::either);
        is("patterns", mill.about(1), 2);
        mill.pop(false);
        mill.number(1, 8, false);
        mill.name(2);
        refuses("different names", STATE, mill::either);
        mill.number(1, 9, false);
        mill.name(3);
        refuses("as many names, but others", STATE, mill::either);
        mill.pop(false);
        mill.number(1, 9, false);
        mill.name(2);
        is("the same names", mill.either(), 2);
        is("size", mill.pop(false), 3);
        is("size of the one below", mill.pop(false), 1);
        for (int leaves = 1; leaves <= 12; leaves++) {
            mill.number(1, leaves, false);
            if (leaves > 1) {
                is("either", mill.either(), 1);
            }
        }
        mill.number(1, 13, false);
        refuses("size 25", STATE, mill::either);
        is("patterns", mill.about(1), 2);
        mill.pop(false);
        is("size", mill.pop(false), 23);
        for (int i = 0; i < 40; i++) {
            mill.any(2);
        }
        is("from a full pile", mill.either(), 39);
        eitherTakesTheLowerOneFirst();
    }

    private static void eitherTakesTheLowerOneFirst() {
        MatchMill mill = triples();
        mill.make(1, 0, false);
        mill.any(1);
        mill.either();
        mill.any(1);
        mill.any(2);
        mill.make(0, 0, false);
        mill.addCase(false);
        is("the lower part is asked for first", mill.build(), 2);
        is("rows", mill.question(1, 0), 2);
        MatchMill turned = triples();
        turned.any(1);
        turned.make(1, 0, false);
        turned.either();
        turned.any(1);
        turned.any(2);
        turned.make(0, 0, false);
        turned.addCase(false);
        is("any is first, so the other part is never asked for", turned.build(), 1);
    }

    private static void promise8() {
        part = "promise 8";
        MatchMill mill = lists();
        refuses("no pattern", STATE, () -> mill.name(0));
        refuses("no pattern and no name", ARGUMENT, () -> mill.name(8));
        mill.number(1, 1, true);
        refuses("a value gets no name", STATE, () -> mill.name(0));
        mill.any(1);
        refuses("name -1", ARGUMENT, () -> mill.name(-1));
        refuses("name 8", ARGUMENT, () -> mill.name(8));
        is("first name", mill.name(7), 1);
        is("second name", mill.name(0), 2);
        refuses("the name stands there", STATE, () -> mill.name(7));
        mill.any(0);
        is("names of the topmost alone", mill.name(1), 1);
        mill.make(0, 1, false);
        is("names of its parts, too", mill.name(2), 4);
        refuses("the name stands in a part", STATE, () -> mill.name(1));
        MatchMill both = lists();
        both.any(2);
        both.name(4);
        both.any(2);
        both.name(4);
        both.either();
        refuses("the name stands in both parts", STATE, () -> both.name(4));
        is("a name of both parts is one name", both.name(5), 2);
    }

    private static void promise9() {
        part = "promise 9";
        MatchMill mill = lists();
        is("no value", mill.pop(true), 0);
        is("no pattern", mill.pop(false), 0);
        list(mill, true, 1, 2, 3);
        list(mill, false, 1);
        is("patterns before", mill.about(1), 1);
        is("size of the value", mill.pop(true), 7);
        is("the pattern stays", mill.about(1), 1);
        is("size of the pattern", mill.pop(false), 3);
        is("no more", mill.pop(false), 0);
        mill.number(1, 5, true);
        mill.make(2, 1, true);
        mill.pop(true);
        mill.make(0, 0, true);
        is("what lies below stays", mill.make(0, 1, true), 1);
    }

    private static void promise10() {
        part = "promise 10";
        MatchMill mill = lists();
        refuses("no pattern", STATE, () -> mill.addCase(true));
        mill.any(0);
        is("case 0", mill.addCase(true), 0);
        is("the pattern is gone", mill.about(1), 0);
        mill.any(1);
        refuses("another type", STATE, () -> mill.addCase(false));
        is("the pattern stays", mill.about(1), 1);
        is("built", mill.build(), 0);
        refuses("another type", STATE, () -> mill.addCase(false));
        is("a call that throws leaves what is built", mill.about(4), 1);
        for (int i = 1; i < 20; i++) {
            mill.make(0, 0, false);
            is("case", mill.addCase(i % 2 == 0), i);
        }
        mill.any(0);
        refuses("case 20", STATE, () -> mill.addCase(false));
        is("cases", mill.about(0), 20);
        MatchMill again = lists();
        list(again, false, 1);
        again.addCase(false);
        again.build();
        again.any(0);
        again.addCase(false);
        is("nothing is built: questions", again.about(3), 0);
        is("nothing is built: unused", again.unused(0), NONE);
        is("nothing is built: missing", again.missing(0), NONE);
        refuses("nothing is built: question", ARGUMENT, () -> again.question(0, 0));
        again.make(0, 0, true);
        refuses("nothing is built: match", STATE, () -> again.match(0));
    }

    private static void promise11() {
        part = "promise 11";
        MatchMill mill = lists();
        refuses("no cases", STATE, mill::build);
        mill.any(0);
        refuses("a pattern, but no case", STATE, mill::build);
        mill.addCase(false);
        is("a tree that takes at once", mill.build(), 0);
        is("built again", mill.build(), 0);
        MatchMill pairs = lists();
        list(pairs, false, 1, 2);
        pairs.addCase(false);
        is("list, number, list, number", pairs.build(), 4);
        is("built again", pairs.build(), 4);
        list(pairs, false, 3);
        pairs.addCase(false);
        is("built with another case", pairs.build(), 4);
        is("takes", pairs.about(4), 2);
        is("fails: an end, another number, an end behind 1, another number behind 1", pairs.about(5), 4);
    }

    /** Leaves of numbers that rise from a first one, joined by eithers. */
    private static void manyNumbers(MatchMill mill, int first, int leaves) {
        for (int i = 0; i < leaves; i++) {
            mill.number(1, first + i, false);
            if (i > 0) {
                mill.either();
            }
        }
        mill.addCase(false);
    }

    private static void promise11Rows() {
        part = "promise 11, 80 rows";
        MatchMill mill = lists();
        for (int i = 0; i < 6; i++) {
            manyNumbers(mill, 12 * i, 12);
        }
        manyNumbers(mill, 72, 8);
        is("80 rows", mill.build(), 1);
        questionIs(mill, 0, 80, 81, 0, 0);
        is("takes", mill.about(4), 80);
        missingIs(mill, 0, 80);
        manyNumbers(mill, 5, 1);
        refuses("81 rows", UNSUPPORTED, mill::build);
        refuses("81 rows again", UNSUPPORTED, mill::build);
        is("nothing is built", mill.about(4), 0);
        mill.number(1, 3, true);
        refuses("nothing is built: match", STATE, () -> mill.match(0));
        is("the value stays", mill.about(2), 1);
    }

    private static void promise11RowsAtOnce() {
        part = "promise 11, 80 rows that take at once";
        MatchMill mill = lists();
        mill.any(1);
        mill.addCase(false);
        for (int i = 0; i < 6; i++) {
            manyNumbers(mill, 12 * i, 12);
        }
        manyNumbers(mill, 72, 7);
        is("80 rows", mill.build(), 0);
        manyNumbers(mill, 5, 1);
        refuses("81 rows", UNSUPPORTED, mill::build);
        part = "promise 11, 81 rows behind an answer";
        MatchMill deep = new MatchMill();
        deep.type(0, 1);
        for (int i = 0; i < 4; i++) {
            deep.argument(0, 0, 1);
        }
        deep.type(1, 0);
        for (int i = 0; i < 4; i++) {
            deep.number(1, 0, false);
            deep.number(1, 1, false);
            deep.either();
            deep.number(1, 2, false);
            deep.either();
        }
        deep.make(0, 0, false);
        deep.addCase(false);
        refuses("3 times 3 times 3 times 3 rows", UNSUPPORTED, deep::build);
    }

    /** Type 0: one constructor of types 1 and 2. Type 1: eight constructors. Type 2: one constructor of type 2. */
    private static MatchMill allRows(int depthOfFirst) {
        MatchMill mill = new MatchMill();
        mill.type(0, 1);
        mill.argument(0, 0, 1);
        mill.argument(0, 0, 2);
        mill.type(1, 8);
        mill.type(2, 1);
        mill.argument(2, 0, 2);
        mill.make(1, 0, false);
        chain(mill, depthOfFirst);
        mill.make(0, 0, false);
        mill.addCase(true);
        for (int i = 0; i < 7; i++) {
            mill.any(1);
            chain(mill, 14);
            mill.make(0, 0, false);
            mill.addCase(false);
        }
        return mill;
    }

    private static void chain(MatchMill mill, int depth) {
        mill.any(2);
        for (int i = 0; i < depth; i++) {
            mill.make(2, 0, false);
        }
    }

    private static void promise11AllRows() {
        part = "promise 11, 800 rows of all questions";
        // 8 rows, 8 rows, and behind each of eight answers 14 questions with 7 rows.
        MatchMill mill = allRows(0);
        is("800 rows", mill.build(), 114);
        is("takes", mill.about(4), 9);
        is("fails", mill.about(5), 0);
        is("most questions on a way", mill.about(6), 16);
        for (int i = 0; i < 6; i++) {
            is("unused(" + i + ")", mill.unused(i), i + 2);
        }
        is("unused(6)", mill.unused(6), NONE);
        questionIs(mill, 15, 7, 1, 15, 14);
        questionIs(mill, 16, 7, 1, 2, 1);
        questionIs(mill, 113, 7, 1, 15, 14);
        refuses("801 rows", UNSUPPORTED, () -> allRows(1).build());
    }

    /** Four types of one constructor each, with four arguments of the next one; the last has none: 85 places. */
    private static void promise11LongWay() {
        part = "promise 11, a long way";
        MatchMill mill = new MatchMill();
        for (int type = 0; type < 4; type++) {
            mill.type(type, 1);
            for (int i = 0; i < 4 && type < 3; i++) {
                mill.argument(type, 0, type + 1);
            }
        }
        for (int k = 0; k < 4; k++) {
            for (int i = 0; i < 4; i++) {
                if (i == k) {
                    longPart(mill, true, true, true, false);
                } else {
                    mill.any(1);
                }
            }
            mill.make(0, 0, false);
            mill.addCase(true);
        }
        for (int k = 0; k < 2; k++) {
            for (int i = 0; i < 4; i++) {
                if (i / 2 == k) {
                    longPart(mill, false, false, false, true);
                } else {
                    mill.any(1);
                }
            }
            mill.make(0, 0, false);
            mill.addCase(true);
        }
        is("questions", mill.build(), 85);
        is("takes", mill.about(4), 6);
        is("fails", mill.about(5), 1);
        is("on a way", mill.about(6), 85);
        questionIs(mill, 84, 1, 1, 84, 3);
        for (int i = 0; i < 170; i++) {
            is("missing(" + i + ")", mill.missing(i), i % 2 == 0 ? 1 : 0);
        }
        is("missing(170)", mill.missing(170), NONE);
    }

    private static void longPart(MatchMill mill, boolean... inside) {
        for (boolean whole : inside) {
            if (!whole) {
                mill.any(2);
                continue;
            }
            for (int i = 0; i < 4; i++) {
                mill.make(3, 0, false);
            }
            mill.make(2, 0, false);
        }
        mill.make(1, 0, false);
    }

    private static void promise12() {
        part = "promise 12";
        MatchMill mill = triples();
        triple(mill, false, 0, NONE, 5);
        mill.addCase(true);
        triple(mill, false, NONE, 1, NONE);
        mill.addCase(false);
        triple(mill, false, 0, NONE, NONE);
        mill.addCase(true);
        triple(mill, true, 0, 0, 5);
        refuses("nothing is built", STATE, () -> mill.match(0));
        is("the value stays", mill.about(2), 1);
        mill.build();
        is("its guard holds", mill.match(1), 0);
        is("the value went", mill.about(2), 0);
        refuses("no value", STATE, () -> mill.match(1));
        triple(mill, true, 0, 0, 5);
        is("the next guard holds", mill.match(4), 2);
        triple(mill, true, 0, 0, 5);
        is("no guard holds", mill.match(2), NONE);
        triple(mill, true, 0, 1, 5);
        is("a case without guard", mill.match(0), 1);
        triple(mill, true, 0, 1, 6);
        is("another number", mill.match(-1), 1);
        triple(mill, true, 1, 0, 5);
        is("none", mill.match(-1), NONE);
        is("the value went also for none", mill.about(2), 0);
        mill.number(2, 5, true);
        refuses("another type", STATE, () -> mill.match(-1));
        is("the value stays", mill.about(2), 1);
        triple(mill, true, 0, 1, 7);
        is("the topmost value", mill.match(0), 1);
        is("the other one stays", mill.about(2), 1);
        guardOfLastCase();
    }

    private static void guardOfLastCase() {
        MatchMill mill = lists();
        for (int i = 0; i < 20; i++) {
            mill.any(2);
            mill.addCase(true);
        }
        mill.build();
        for (int i = 0; i < 20; i++) {
            mill.make(2, 0, true);
            is("guard " + i, mill.match(1 << i), i);
        }
        mill.make(2, 0, true);
        is("bits beyond the cases", mill.match(0xfff00000), NONE);
        is("takes", mill.about(4), 20);
        is("fails", mill.about(5), 1);
    }

    private static void promise12Eithers() {
        part = "promise 12, eithers";
        MatchMill mill = triples();
        mill.make(1, 0, false);
        mill.make(1, 1, false);
        mill.either();
        mill.make(1, 1, false);
        mill.number(2, 3, false);
        mill.number(2, 4, false);
        mill.either();
        mill.make(0, 0, false);
        mill.addCase(true);
        triple(mill, false, NONE, NONE, NONE);
        mill.addCase(false);
        mill.build();
        triple(mill, true, 1, 1, 4);
        is("second parts", mill.match(1), 0);
        triple(mill, true, 0, 1, 3);
        is("first parts", mill.match(1), 0);
        triple(mill, true, 0, 1, 3);
        is("no row of a case whose guard does not hold", mill.match(0), 1);
        triple(mill, true, 0, 1, 5);
        is("another number", mill.match(1), 1);
        MatchMill twice = lists();
        twice.any(2);
        twice.any(2);
        twice.either();
        twice.addCase(true);
        is("questions", twice.build(), 0);
        is("of the guarded case one row alone is taken", twice.about(4), 1);
        is("fails", twice.about(5), 1);
    }

    private static void promise13() {
        part = "promise 13";
        MatchMill mill = lists();
        is("no match yet", mill.asked(0), NONE);
        list(mill, false, 1);
        mill.addCase(false);
        list(mill, false, 2, 3);
        mill.addCase(false);
        is("questions", mill.build(), 4);
        list(mill, true, 2, 3);
        mill.match(0);
        askedIs(mill, 0, 1, 2, 3);
        is("asked(-1)", mill.asked(-1), NONE);
        is("asked(least)", mill.asked(Integer.MIN_VALUE), NONE);
        is("asked(greatest)", mill.asked(Integer.MAX_VALUE), NONE);
        list(mill, true, 1);
        mill.match(0);
        askedIs(mill, 0, 1);
        list(mill, true);
        is("none takes it", mill.match(0), NONE);
        askedIs(mill, 0);
        list(mill, true, 2, 3);
        mill.match(0);
        mill.number(1, 1, true);
        refuses("another type", STATE, () -> mill.match(0));
        askedIs(mill, 0, 1, 2, 3);
        mill.any(0);
        mill.addCase(false);
        askedIs(mill, 0, 1, 2, 3);
        mill.build();
        askedIs(mill, 0, 1, 2, 3);
        mill.clear();
        askedIs(mill);
    }

    private static void promise14() {
        part = "promise 14";
        MatchMill mill = lists();
        is("no match yet", mill.bound(0), 0);
        refuses("name -1", ARGUMENT, () -> mill.bound(-1));
        refuses("name 8", ARGUMENT, () -> mill.bound(8));
        mill.number(1, 1, false);
        mill.name(0);
        mill.any(0);
        mill.name(1);
        mill.name(7);
        mill.make(0, 1, false);
        mill.name(2);
        mill.addCase(true);
        mill.make(0, 0, false);
        mill.addCase(false);
        mill.any(0);
        mill.name(3);
        mill.addCase(false);
        mill.build();
        list(mill, true, 1, 5, -6);
        is("match", mill.match(1), 0);
        boundIs(mill, 0, 0, 1);
        boundIs(mill, 1, 1, 1, 0, 5, 1, 1, 0, -6, 1, 0);
        boundIs(mill, 7, 1, 1, 0, 5, 1, 1, 0, -6, 1, 0);
        boundIs(mill, 2, 1, 1, 0, 1, 1, 1, 0, 5, 1, 1, 0, -6, 1, 0);
        boundIs(mill, 3);
        list(mill, true, 1, 5);
        is("match", mill.match(0), 2);
        boundIs(mill, 0);
        boundIs(mill, 3, 1, 1, 0, 1, 1, 1, 0, 5, 1, 0);
        refuses("no value", STATE, () -> mill.match(0));
        boundIs(mill, 3, 1, 1, 0, 1, 1, 1, 0, 5, 1, 0);
        mill.any(0);
        mill.addCase(false);
        mill.build();
        boundIs(mill, 3, 1, 1, 0, 1, 1, 1, 0, 5, 1, 0);
        list(mill, true);
        is("match", mill.match(0), 1);
        boundIs(mill, 3);
        list(mill, true, 2);
        mill.match(0);
        boundIs(mill, 3, 1, 1, 0, 2, 1, 0);
        mill.clear();
        boundIs(mill, 3);
    }

    private static void promise14Eithers() {
        part = "promise 14, eithers";
        MatchMill mill = triples();
        // The name stands at the first argument in one row and at the second in the other.
        mill.make(1, 0, false);
        mill.name(0);
        mill.make(1, 0, false);
        mill.any(2);
        mill.name(1);
        mill.make(0, 0, false);
        mill.any(1);
        mill.make(1, 1, false);
        mill.name(0);
        mill.number(2, 4, false);
        mill.name(1);
        mill.make(0, 0, false);
        mill.either();
        mill.name(2);
        mill.addCase(false);
        mill.build();
        triple(mill, true, 0, 0, 9);
        is("first row", mill.match(0), 0);
        boundIs(mill, 0, 1, 0);
        boundIs(mill, 1, 0, 9);
        boundIs(mill, 2, 1, 0, 1, 0, 1, 0, 0, 9);
        triple(mill, true, 0, 1, 4);
        is("second row", mill.match(0), 0);
        boundIs(mill, 0, 1, 1);
        boundIs(mill, 1, 0, 4);
        triple(mill, true, 0, 1, 5);
        is("none", mill.match(0), NONE);
        boundIs(mill, 0);
        boundIs(mill, 2);
    }

    /** Of an either in an either the rows keep the order of the patterns: the second one goes before the third. */
    private static void promise14RowOrder() {
        part = "promise 14, order of rows";
        MatchMill mill = triples();
        for (int named = 0; named < 3; named++) {
            leaf(mill, false, named == 0 ? 0 : NONE);
            nameIf(mill, named == 0);
            mill.any(1);
            nameIf(mill, named == 1);
            mill.any(2);
            nameIf(mill, named == 2);
            mill.make(0, 0, false);
            if (named > 0) {
                mill.either();
            }
        }
        mill.addCase(false);
        mill.build();
        triple(mill, true, 0, 1, 9);
        is("first pattern", mill.match(0), 0);
        boundIs(mill, 6, 1, 0);
        triple(mill, true, 1, 0, 9);
        is("second pattern", mill.match(0), 0);
        boundIs(mill, 6, 1, 0);
    }

    private static void nameIf(MatchMill mill, boolean named) {
        if (named) {
            mill.name(6);
        }
    }

    private static void promise15() {
        part = "promise 15";
        MatchMill mill = lists();
        refuses("name -1", ARGUMENT, () -> mill.boundAt(-1, 0));
        refuses("name 8", ARGUMENT, () -> mill.boundAt(8, 0));
        is("no match yet", mill.boundAt(0, 0), NONE);
        mill.any(0);
        mill.name(0);
        mill.addCase(false);
        mill.build();
        int[] numbers = new int[29];
        int[] told = new int[118];
        for (int i = 0; i < 29; i++) {
            numbers[i] = i * i - 100;
            told[4 * i] = 1;
            told[4 * i + 1] = 1;
            told[4 * i + 3] = numbers[i];
        }
        told[116] = 1;
        list(mill, true, numbers);
        mill.match(0);
        boundIs(mill, 0, told);
        is("boundAt(0, -1)", mill.boundAt(0, -1), NONE);
        is("boundAt(0, least)", mill.boundAt(0, Integer.MIN_VALUE), NONE);
        is("boundAt(0, greatest)", mill.boundAt(0, Integer.MAX_VALUE), NONE);
        is("a name that the row has not", mill.boundAt(1, 0), NONE);
    }

    private static void promise16() {
        part = "promise 16";
        MatchMill mill = triples();
        is("nothing is built", mill.missing(0), NONE);
        triple(mill, false, 0, NONE, NONE);
        mill.addCase(false);
        is("nothing is built", mill.missing(0), NONE);
        mill.build();
        missingIs(mill, 1, 0, 1, 1, 2, 0, 2, 0);
        is("missing(-1)", mill.missing(-1), NONE);
        is("missing(greatest)", mill.missing(Integer.MAX_VALUE), NONE);
        triple(mill, false, NONE, 1, 0);
        mill.addCase(false);
        is("no more built", mill.missing(0), NONE);
        mill.build();
        missingIs(mill, 1, 0, 1, 1, 1, 0, 2, 0);
        triple(mill, false, 1, 0, NONE);
        mill.addCase(false);
        mill.build();
        missingIs(mill, 1, 0, 1, 1, 1, 1, 0, 1);
        triple(mill, false, NONE, NONE, NONE);
        mill.addCase(false);
        mill.build();
        missingIs(mill);
    }

    private static void promise16Numbers() {
        part = "promise 16, numbers";
        MatchMill mill = lists();
        for (int number : new int[] {3, 0, -1, 1, 3, 7}) {
            mill.number(1, number, false);
            mill.addCase(false);
        }
        mill.build();
        questionIs(mill, 0, 6, 6, 0, 0);
        missingIs(mill, 0, 2);
        mill.number(1, 2, false);
        mill.addCase(false);
        mill.build();
        missingIs(mill, 0, 4);
        MatchMill without = lists();
        without.number(1, 5, false);
        without.addCase(true);
        without.build();
        missingIs(without, 0, 5);
        MatchMill negative = lists();
        negative.number(1, -1, false);
        negative.addCase(false);
        negative.build();
        missingIs(negative, 0, 0);
    }

    private static void promise16Guards() {
        part = "promise 16, guards";
        MatchMill mill = lists();
        mill.any(0);
        mill.addCase(true);
        mill.build();
        missingIs(mill, 2, 0);
        list(mill, false, 4);
        mill.addCase(false);
        mill.build();
        missingIs(mill, 1, 0);
        mill.make(0, 0, false);
        mill.addCase(false);
        mill.build();
        missingIs(mill, 1, 1, 0, 0, 2, 0);
    }

    /** A place that was asked about behind an earlier answer alone is any where the tree fails. */
    private static void promise16LeftPlaces() {
        part = "promise 16, places left again";
        MatchMill mill = triples();
        triple(mill, false, 0, 1, 5);
        mill.addCase(false);
        triple(mill, false, 0, NONE, NONE);
        mill.addCase(false);
        is("questions", mill.build(), 4);
        missingIs(mill, 1, 0, 1, 1, 2, 0, 2, 0);
    }

    private static void promise17() {
        part = "promise 17";
        MatchMill mill = triples();
        is("nothing is built", mill.unused(0), NONE);
        triple(mill, false, 0, NONE, NONE);
        mill.addCase(false);
        triple(mill, false, 0, 1, NONE);
        mill.addCase(false);
        triple(mill, false, NONE, 1, NONE);
        mill.addCase(true);
        triple(mill, false, NONE, 1, 3);
        mill.addCase(false);
        triple(mill, false, 0, NONE, 4);
        mill.addCase(true);
        is("nothing is built", mill.unused(0), NONE);
        mill.build();
        is("unused(0)", mill.unused(0), 1);
        is("unused(1)", mill.unused(1), 4);
        is("unused(2)", mill.unused(2), NONE);
        is("unused(-1)", mill.unused(-1), NONE);
        is("unused(greatest)", mill.unused(Integer.MAX_VALUE), NONE);
        triple(mill, false, 1, NONE, NONE);
        mill.addCase(false);
        is("nothing is built any more", mill.unused(0), NONE);
        mill.build();
        is("unused(0)", mill.unused(0), 1);
        is("unused(1)", mill.unused(1), 4);
        is("unused(2)", mill.unused(2), NONE);
        MatchMill never = new MatchMill();
        never.type(0, 1);
        never.make(0, 0, false);
        never.addCase(false);
        never.any(0);
        never.addCase(false);
        never.build();
        is("one constructor alone is all", never.unused(0), 1);
    }

    private static void promise18() {
        part = "promise 18";
        MatchMill mill = triples();
        refuses("nothing is built", ARGUMENT, () -> mill.question(0, 0));
        triple(mill, false, 0, 1, 5);
        mill.addCase(true);
        triple(mill, false, NONE, 0, 6);
        mill.addCase(false);
        is("questions", mill.build(), 7);
        // 0 whole; 1 first; behind its 0: 2 second, 3 and 4 third; behind its 1: 5 second, 6 third.
        questionIs(mill, 0, 2, 1, 0, 0);
        questionIs(mill, 1, 2, 2, 1, 1);
        questionIs(mill, 2, 2, 2, 2, 1);
        questionIs(mill, 3, 1, 2, 3, 1);
        questionIs(mill, 4, 1, 2, 3, 1);
        questionIs(mill, 5, 1, 2, 2, 1);
        questionIs(mill, 6, 1, 2, 3, 1);
        refuses("question -1", ARGUMENT, () -> mill.question(-1, 0));
        refuses("question 7", ARGUMENT, () -> mill.question(7, 0));
        refuses("question 7 with what 9", ARGUMENT, () -> mill.question(7, 9));
        refuses("what -1", ARGUMENT, () -> mill.question(0, -1));
        refuses("what 4", ARGUMENT, () -> mill.question(0, 4));
        mill.any(0);
        mill.addCase(false);
        refuses("no more built", ARGUMENT, () -> mill.question(0, 0));
    }

    /** Wishes come in the place of that which they are parts of, and a guarded row's rest where that row is. */
    private static void promise18Order() {
        part = "promise 18, order";
        MatchMill mill = new MatchMill();
        mill.type(0, 1);
        mill.argument(0, 0, 1);
        mill.argument(0, 0, 2);
        mill.type(1, 1);
        mill.argument(1, 0, 2);
        mill.argument(1, 0, 2);
        mill.type(2, 2);
        // Parts of the first argument are asked about before the second argument.
        mill.make(2, 0, false);
        mill.make(2, 0, false);
        mill.make(1, 0, false);
        mill.make(2, 0, false);
        mill.make(0, 0, false);
        mill.addCase(true);
        mill.any(1);
        mill.make(2, 1, false);
        mill.make(0, 0, false);
        mill.addCase(false);
        is("questions", mill.build(), 7);
        questionIs(mill, 0, 2, 1, 0, 0);
        questionIs(mill, 1, 2, 1, 1, 1);
        questionIs(mill, 2, 2, 2, 2, 2);
        questionIs(mill, 3, 2, 2, 3, 2);
        questionIs(mill, 4, 2, 2, 4, 1);
        questionIs(mill, 5, 1, 2, 4, 1);
        questionIs(mill, 6, 1, 2, 3, 1);
        MatchMill guarded = triples();
        triple(guarded, false, 0, NONE, NONE);
        guarded.addCase(true);
        triple(guarded, false, NONE, NONE, 5);
        guarded.addCase(false);
        is("questions", guarded.build(), 4);
        questionIs(guarded, 2, 1, 2, 2, 1);
        questionIs(guarded, 3, 1, 2, 2, 1);
        triple(guarded, true, 0, 0, 5);
        is("match", guarded.match(0), 1);
        askedIs(guarded, 0, 1, 2);
        triple(guarded, true, 1, 0, 5);
        is("match", guarded.match(0), 1);
        askedIs(guarded, 0, 1, 3);
        triple(guarded, true, 0, 0, 5);
        is("match", guarded.match(1), 0);
        askedIs(guarded, 0, 1);
    }

    private static void promise19() {
        part = "promise 19";
        MatchMill mill = triples();
        refuses("what -1", ARGUMENT, () -> mill.about(-1));
        refuses("what 7", ARGUMENT, () -> mill.about(7));
        triple(mill, false, 0, 1, 5);
        mill.addCase(true);
        triple(mill, false, NONE, 0, 6);
        mill.addCase(false);
        mill.any(0);
        mill.any(0);
        mill.any(1);
        mill.number(2, 1, true);
        for (int what = 3; what < 7; what++) {
            is("about(" + what + ") before", mill.about(what), 0);
        }
        mill.build();
        int[] due = {2, 3, 1, 7, 3, 5, 4};
        for (int what = 0; what < 7; what++) {
            is("about(" + what + ")", mill.about(what), due[what]);
        }
        mill.pop(false);
        mill.addCase(true);
        is("cases", mill.about(0), 3);
        is("patterns", mill.about(1), 1);
        for (int what = 3; what < 7; what++) {
            is("about(" + what + ") after", mill.about(what), 0);
        }
    }

    private static void promise20() {
        part = "promise 20";
        MatchMill mill = lists();
        list(mill, false, 1);
        mill.name(0);
        mill.addCase(false);
        mill.any(0);
        mill.build();
        list(mill, true, 1);
        mill.match(0);
        list(mill, true, 1);
        mill.clear();
        isNew(mill);
        mill.type(0, 2);
        mill.type(1, 1);
        is("constructors are without arguments again", mill.argument(0, 1, 1), 1);
        is("any", mill.any(1), 1);
        is("make", mill.make(0, 1, false), 1);
        is("another type may be the first case", mill.addCase(true), 0);
        is("questions", mill.build(), 1);
        missingIs(mill, 1, 0);
        mill.clear();
        mill.clear();
        isNew(mill);
    }
}
