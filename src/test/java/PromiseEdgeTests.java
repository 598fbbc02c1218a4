/** Each sentence of a promise that names a boundary case, by hand, on both sides of it. */
public final class PromiseEdgeTests {
    private static final int NONE = MatchMill.NONE;
    private static final int LEAST = Integer.MIN_VALUE;
    private static final int GREATEST = Integer.MAX_VALUE;
    private static final int[] BELOW_ZERO = {-1, -2, LEAST};

    public static void main(String[] args) {
        newObject();
        typeWithoutArguments();
        typeToldAlready();
        typeBehindMade();
        argumentOfUntold();
        argumentRefused();
        argumentBehindMade();
        anyOnItsPile();
        numberOnEitherPile();
        numberRefused();
        makeWithTooFew();
        makeOfOtherTypes();
        makeOnFullPile();
        eitherOfTooFew();
        eitherOfOtherTypes();
        eitherOnFullPile();
        nameOfTopmost();
        popToTheEnd();
        addCaseRefused();
        addCaseUnbuilds();
        buildWithoutCases();
        build80Rows();
        build80RowsByEither();
        build80RowsTakenAtOnce();
        build80RowsBehindGuard();
        build80RowsBehindAnswer();
        build80RowsTakenBehindAnswer();
        buildRowsPartedBehindAnswer();
        build800Rows();
        buildManyQuestions();
        buildRefusedAndCleared();
        buildAgain();
        buildManyTimes();
        matchRefused();
        matchFullPile();
        matchGuards();
        matchGuardsOfNegatives();
        matchTheGreatest();
        askedOutside();
        askedStays();
        boundOfNone();
        boundStays();
        boundAtOutside();
        missingOutside();
        unusedOutside();
        questionOutside();
        aboutOutside();
        aboutWithoutTree();
        clearAll();
        clearAtTheLimits();
        Twins.report();
    }

    /** Type 0: lists, of constructor 0 (end) and 1 (a number, a list). Type 1: numbers. Type 2: three constructors. */
    private static Twins lists(String sentence) {
        Twins mills = new Twins(sentence);
        tellLists(mills);
        return mills;
    }

    private static void tellLists(Twins mills) {
        mills.type(0, 2);
        mills.argument(0, 1, 1);
        mills.argument(0, 1, 0);
        mills.type(1, 0);
        mills.type(2, 3);
    }

    /** Type 0: one constructor with a number. Type 1: numbers. */
    private static Twins boxes(String sentence) {
        Twins mills = new Twins(sentence);
        mills.type(0, 1);
        mills.argument(0, 0, 1);
        mills.type(1, 0);
        return mills;
    }

    /** A list of these numbers, to its end. */
    private static void list(Twins mills, boolean value, int... numbers) {
        for (int number : numbers) {
            mills.number(1, number, value);
        }
        mills.make(0, 0, value);
        for (int i = 0; i < numbers.length; i++) {
            mills.make(0, 1, value);
        }
    }

    /** So many numbers from a first one on, joined by eithers. */
    private static void eithers(Twins mills, int first, int count) {
        for (int i = 0; i < count; i++) {
            mills.number(1, first + i, false);
            if (i > 0) {
                mills.either();
            }
        }
    }

    /** So many rows of numbers from a first one on, ten in a case. */
    private static void rows(Twins mills, int first, int count) {
        for (int i = 0; i < count; i += 10) {
            eithers(mills, first + i, Math.min(10, count - i));
            mills.addCase(false);
        }
    }

    /** As rows, but each case's eithers are in a box. */
    private static void boxedRows(Twins mills, int first, int count) {
        for (int i = 0; i < count; i += 10) {
            eithers(mills, first + i, Math.min(10, count - i));
            mills.make(0, 0, false);
            mills.addCase(false);
        }
    }

    private static void nothingIsBuilt(Twins mills) {
        for (int what = 3; what < 7; what++) {
            mills.is("about(" + what + ")", mills.about(what), 0);
        }
        mills.missingIs();
        mills.unusedIs();
        mills.refuses("question(0, 0)", Twins.ARGUMENT, mill -> mill.question(0, 0));
    }

    private static void isNew(Twins mills) {
        mills.aboutIs(0, 0, 0, 0, 0, 0, 0);
        nothingIsBuilt(mills);
        for (int type = 0; type < 16; type++) {
            int t = type;
            mills.refuses("any(" + t + ")", Twins.ARGUMENT, mill -> mill.any(t));
            mills.refuses("number(" + t + ", 0)", Twins.ARGUMENT, mill -> mill.number(t, 0, true));
            mills.refuses("make(" + t + ", 0)", Twins.ARGUMENT, mill -> mill.make(t, 0, true));
            mills.refuses("argument(" + t + ", 0, 0)", Twins.ARGUMENT, mill -> mill.argument(t, 0, 0));
        }
        mills.is("pop of no value", mills.pop(true), 0);
        mills.is("pop of no pattern", mills.pop(false), 0);
        mills.refuses("either()", Twins.STATE, MatchMill::either);
        mills.refuses("name(0)", Twins.STATE, mill -> mill.name(0));
        mills.refuses("addCase(true)", Twins.STATE, mill -> mill.addCase(true));
        mills.refuses("build()", Twins.STATE, MatchMill::build);
        mills.refuses("match(0)", Twins.STATE, mill -> mill.match(0));
        mills.askedIs();
        for (int name = 0; name < 8; name++) {
            mills.boundIs(name);
        }
    }

    private static void newObject() {
        Twins mills = new Twins("promise 1: no types, no cases, empty piles");
        isNew(mills);
        for (int type = 0; type < 16; type++) {
            mills.type(type, type % 9);
        }
        mills.end();
    }

    private static void typeWithoutArguments() {
        Twins mills = new Twins("promise 2: so many constructors, without arguments");
        mills.type(7, 8);
        for (int constructor = 0; constructor < 8; constructor++) {
            mills.is("make", mills.make(7, constructor, true), constructor + 1);
        }
        mills.refuses("a ninth", Twins.ARGUMENT, mill -> mill.make(7, 8, true));
        mills.end();
    }

    private static void typeToldAlready() {
        Twins mills = new Twins("promise 2: it is told already");
        mills.type(0, 3);
        mills.type(1, 0);
        mills.refuses("with as many", Twins.STATE, mill -> mill.type(0, 3));
        mills.refuses("with more", Twins.STATE, mill -> mill.type(0, 8));
        mills.refuses("with fewer", Twins.STATE, mill -> mill.type(0, 1));
        mills.refuses("of numbers", Twins.STATE, mill -> mill.type(0, 0));
        mills.refuses("that was of numbers", Twins.STATE, mill -> mill.type(1, 0));
        mills.refuses("that was of numbers", Twins.STATE, mill -> mill.type(1, 1));
        mills.refuses("with 9", Twins.ARGUMENT, mill -> mill.type(0, 9));
        mills.refuses("with -1", Twins.ARGUMENT, mill -> mill.type(0, -1));
        mills.is("three constructors still", mills.argument(0, 2, 1), 1);
        mills.refuses("no more", Twins.ARGUMENT, mill -> mill.argument(0, 3, 1));
        mills.end();
    }

    private static void typeBehindMade() {
        for (int way = 0; way < 5; way++) {
            Twins mills = new Twins("promise 2: a pattern or value was made, way " + way);
            mills.type(0, 2);
            mills.argument(0, 1, 0);
            mills.type(1, 0);
            mills.refuses("any of an untold type", Twins.ARGUMENT, mill -> mill.any(2));
            mills.refuses("a number of what has constructors", Twins.ARGUMENT, mill -> mill.number(0, 1, true));
            mills.refuses("constructor 2", Twins.ARGUMENT, mill -> mill.make(0, 2, true));
            mills.refuses("without a value for its argument", Twins.STATE, mill -> mill.make(0, 1, true));
            mills.refuses("without a pattern for its argument", Twins.STATE, mill -> mill.make(0, 1, false));
            mills.refuses("either of none", Twins.STATE, MatchMill::either);
            mills.is("a size of none", mills.pop(true), 0);
            mills.type(2, 1);
            mills.is("no refused call has made one", mills.argument(2, 0, 1), 1);
            makeOne(mills, way);
            mills.refuses("type", Twins.STATE, mill -> mill.type(3, 1));
            mills.refuses("type 16", Twins.ARGUMENT, mill -> mill.type(16, 1));
            mills.pop(true);
            mills.pop(false);
            mills.refuses("it was made, though it is gone", Twins.STATE, mill -> mill.type(3, 1));
            mills.clear();
            mills.type(3, 1);
            mills.is("any", mills.any(3), 1);
            mills.end();
        }
    }

    private static void makeOne(Twins mills, int way) {
        switch (way) {
            case 0 -> mills.any(0);
            case 1 -> mills.number(1, 5, false);
            case 2 -> mills.number(1, 5, true);
            case 3 -> mills.make(0, 0, false);
            default -> mills.make(0, 0, true);
        }
    }

    private static void argumentOfUntold() {
        Twins mills = new Twins("promise 3: of a type, told or not yet");
        mills.type(0, 1);
        mills.is("of itself", mills.argument(0, 0, 0), 1);
        mills.is("not yet told", mills.argument(0, 0, 15), 2);
        mills.type(15, 1);
        mills.is("told by now", mills.argument(0, 0, 15), 3);
        mills.is("never told", mills.argument(0, 0, 14), 4);
        mills.any(0);
        mills.any(15);
        mills.any(15);
        mills.any(15);
        mills.refuses("a part for what is never told", Twins.STATE, mill -> mill.make(0, 0, false));
        mills.end();
    }

    private static void argumentRefused() {
        Twins mills = new Twins("promise 3: IllegalArgumentException; IllegalStateException: it has four");
        mills.type(0, 2);
        mills.type(1, 0);
        mills.refuses("an untold type", Twins.ARGUMENT, mill -> mill.argument(2, 0, 0));
        mills.refuses("constructor 2 of two", Twins.ARGUMENT, mill -> mill.argument(0, 2, 0));
        mills.refuses("constructor -1", Twins.ARGUMENT, mill -> mill.argument(0, -1, 0));
        mills.refuses("a constructor of numbers", Twins.ARGUMENT, mill -> mill.argument(1, 0, 0));
        for (int count = 1; count <= 4; count++) {
            mills.is("argument", mills.argument(0, 1, 1), count);
        }
        mills.refuses("a fifth", Twins.STATE, mill -> mill.argument(0, 1, 1));
        mills.refuses("a fifth of type 16", Twins.ARGUMENT, mill -> mill.argument(0, 1, 16));
        mills.refuses("a fifth of type -1", Twins.ARGUMENT, mill -> mill.argument(0, 1, -1));
        mills.is("the other one has none yet", mills.argument(0, 0, 1), 1);
        for (int i = 1; i <= 5; i++) {
            mills.number(1, i, true);
        }
        mills.is("four parts", mills.make(0, 1, true), 2);
        mills.is("size", mills.pop(true), 5);
        mills.is("one part", mills.make(0, 0, true), 1);
        mills.is("size", mills.pop(true), 2);
        mills.end();
    }

    private static void argumentBehindMade() {
        for (int way = 0; way < 5; way++) {
            Twins mills = new Twins("promise 3: a pattern or value was made, way " + way);
            mills.type(0, 1);
            mills.type(1, 0);
            mills.type(2, 1);
            makeOne(mills, way);
            mills.refuses("argument", Twins.STATE, mill -> mill.argument(2, 0, 0));
            mills.refuses("constructor 1", Twins.ARGUMENT, mill -> mill.argument(2, 1, 0));
            mills.refuses("of type 16", Twins.ARGUMENT, mill -> mill.argument(2, 0, 16));
            mills.pop(true);
            mills.pop(false);
            mills.refuses("it was made, though it is gone", Twins.STATE, mill -> mill.argument(2, 0, 0));
            mills.is("without arguments still", mills.make(2, 0, true), 1);
            mills.end();
        }
    }

    private static void anyOnItsPile() {
        Twins mills = lists("promise 4: any comes on the patterns' pile");
        for (int i = 0; i < 40; i++) {
            mills.number(1, i, true);
        }
        mills.is("the values' pile is full, this is not", mills.any(2), 1);
        mills.refuses("an untold type", Twins.ARGUMENT, mill -> mill.any(3));
        for (int count = 2; count <= 40; count++) {
            mills.is("any", mills.any(count % 3), count);
        }
        mills.refuses("a full pile", Twins.STATE, mill -> mill.any(0));
        mills.refuses("a full pile, an untold type", Twins.ARGUMENT, mill -> mill.any(15));
        mills.aboutIs(0, 40, 40);
        mills.end();
    }

    private static void numberOnEitherPile() {
        Twins mills = lists("promise 5: a number comes on the pile of the values, or the patterns");
        for (int count = 1; count <= 40; count++) {
            mills.is("as value", mills.number(1, LEAST, true), count);
        }
        mills.refuses("a full pile of values", Twins.STATE, mill -> mill.number(1, LEAST, true));
        for (int count = 1; count <= 40; count++) {
            mills.is("as pattern", mills.number(1, GREATEST, false), count);
        }
        mills.refuses("a full pile of patterns", Twins.STATE, mill -> mill.number(1, GREATEST, false));
        mills.pop(true);
        mills.refuses("a full pile of patterns", Twins.STATE, mill -> mill.number(1, 0, false));
        mills.is("room again", mills.number(1, -1, true), 40);
        mills.end();
    }

    private static void numberRefused() {
        for (boolean value : new boolean[] {true, false}) {
            Twins mills = lists("promise 5: also if the type is not one of numbers");
            mills.refuses("two constructors", Twins.ARGUMENT, mill -> mill.number(0, 1, value));
            mills.refuses("three constructors", Twins.ARGUMENT, mill -> mill.number(2, 1, value));
            mills.refuses("an untold type", Twins.ARGUMENT, mill -> mill.number(3, 1, value));
            for (int i = 0; i < 40; i++) {
                mills.number(1, i, value);
            }
            mills.refuses("a full pile too", Twins.ARGUMENT, mill -> mill.number(0, 1, value));
            mills.end();
        }
    }

    private static void makeWithTooFew() {
        for (boolean value : new boolean[] {true, false}) {
            Twins mills = lists("promise 6: there is not so much");
            mills.refuses("an empty pile", Twins.STATE, mill -> mill.make(0, 1, value));
            mills.number(1, 5, value);
            mills.refuses("one of two", Twins.STATE, mill -> mill.make(0, 1, value));
            mills.make(0, 0, !value);
            mills.refuses("the other on the other pile", Twins.STATE, mill -> mill.make(0, 1, value));
            mills.is("that for no arguments", mills.make(0, 0, value), 2);
            mills.is("two of two", mills.make(0, 1, value), 1);
            mills.is("size", mills.pop(value), 3);
            mills.end();
        }
    }

    private static void makeOfOtherTypes() {
        for (boolean value : new boolean[] {true, false}) {
            Twins mills = lists("promise 6: it is of other types");
            list(mills, value);
            mills.number(1, 5, value);
            mills.refuses("the two in turn", Twins.STATE, mill -> mill.make(0, 1, value));
            mills.number(1, 6, value);
            mills.refuses("the last one", Twins.STATE, mill -> mill.make(0, 1, value));
            mills.pop(value);
            mills.pop(value);
            list(mills, value);
            mills.refuses("the first one", Twins.STATE, mill -> mill.make(0, 1, value));
            mills.make(2, 2, value);
            mills.refuses("both", Twins.STATE, mill -> mill.make(0, 1, value));
            mills.is("nothing went", mills.about(value ? 2 : 1), 3);
            mills.end();
        }
    }

    private static void makeOnFullPile() {
        for (boolean value : new boolean[] {true, false}) {
            Twins mills = new Twins("promise 6: the pile is full");
            mills.type(0, 3);
            mills.argument(0, 1, 0);
            mills.argument(0, 2, 0);
            mills.argument(0, 2, 0);
            for (int count = 1; count <= 40; count++) {
                mills.is("make", mills.make(0, 0, value), count);
            }
            mills.refuses("without arguments", Twins.STATE, mill -> mill.make(0, 0, value));
            mills.refuses("constructor 3", Twins.ARGUMENT, mill -> mill.make(0, 3, value));
            mills.is("in the place of its one part", mills.make(0, 1, value), 40);
            mills.is("in the place of its two parts", mills.make(0, 2, value), 39);
            mills.is("room again", mills.make(0, 0, value), 40);
            mills.end();
        }
    }

    private static void eitherOfTooFew() {
        Twins mills = lists("promise 7: there are not two");
        mills.make(2, 0, true);
        mills.make(2, 1, true);
        mills.refuses("none, but two values", Twins.STATE, MatchMill::either);
        mills.any(2);
        mills.refuses("one", Twins.STATE, MatchMill::either);
        mills.any(2);
        mills.is("two", mills.either(), 1);
        mills.refuses("one again", Twins.STATE, MatchMill::either);
        mills.is("size", mills.pop(false), 3);
        mills.end();
    }

    private static void eitherOfOtherTypes() {
        Twins mills = lists("promise 7: they are of different types");
        mills.any(2);
        mills.any(0);
        mills.any(2);
        mills.refuses("the upper of another than the lower", Twins.STATE, MatchMill::either);
        mills.any(2);
        mills.is("the two topmost alone", mills.either(), 3);
        mills.is("size", mills.pop(false), 3);
        mills.refuses("the lower of another", Twins.STATE, MatchMill::either);
        mills.end();
    }

    private static void eitherOnFullPile() {
        Twins mills = lists("promise 7: either comes in their place");
        for (int i = 0; i < 40; i++) {
            mills.any(2);
        }
        mills.is("on a full pile", mills.either(), 39);
        mills.is("again", mills.either(), 38);
        mills.is("size", mills.pop(false), 5);
        mills.end();
    }

    private static void nameOfTopmost() {
        Twins mills = lists("promise 8: there is none, or the name stands in it");
        mills.number(1, 5, true);
        mills.refuses("none, but a value", Twins.STATE, mill -> mill.name(0));
        mills.refuses("none, and no such name", Twins.ARGUMENT, mill -> mill.name(8));
        mills.number(1, 5, false);
        mills.is("one", mills.name(0), 1);
        mills.refuses("it stands there", Twins.STATE, mill -> mill.name(0));
        mills.any(0);
        mills.is("the topmost alone", mills.name(7), 1);
        mills.make(0, 1, false);
        mills.refuses("it stands in the first part", Twins.STATE, mill -> mill.name(0));
        mills.refuses("it stands in the last part", Twins.STATE, mill -> mill.name(7));
        mills.is("those in its parts, too", mills.name(1), 3);
        mills.pop(false);
        mills.refuses("none again", Twins.STATE, mill -> mill.name(2));
        mills.end();
    }

    private static void popToTheEnd() {
        Twins mills = lists("promise 9: its size; 0 if there is none");
        mills.is("no value", mills.pop(true), 0);
        mills.is("no pattern", mills.pop(false), 0);
        mills.type(3, 1);
        list(mills, true, 1, 2, 3);
        mills.is("no pattern, but a value", mills.pop(false), 0);
        mills.is("size", mills.pop(true), 7);
        mills.is("no value again", mills.pop(true), 0);
        mills.any(0);
        mills.is("no value, but a pattern", mills.pop(true), 0);
        mills.is("size", mills.pop(false), 1);
        mills.is("no pattern again", mills.pop(false), 0);
        for (int i = 0; i < 40; i++) {
            mills.make(2, 0, true);
        }
        for (int i = 0; i < 40; i++) {
            mills.is("size", mills.pop(true), 1);
        }
        mills.is("no value at last", mills.pop(true), 0);
        mills.end();
    }

    private static void addCaseRefused() {
        Twins mills = lists("promise 10: there is none, it is of another type than the first case, or there are 20");
        mills.refuses("none", Twins.STATE, mill -> mill.addCase(false));
        mills.number(1, 1, true);
        mills.refuses("none, but a value", Twins.STATE, mill -> mill.addCase(true));
        mills.any(0);
        mills.any(2);
        mills.is("of any type at first", mills.addCase(false), 0);
        mills.refuses("another type", Twins.STATE, mill -> mill.addCase(false));
        mills.pop(false);
        for (int i = 1; i < 20; i++) {
            mills.any(2);
            mills.is("case", mills.addCase(i % 2 == 0), i);
        }
        mills.build();
        mills.any(2);
        mills.refuses("there are 20", Twins.STATE, mill -> mill.addCase(false));
        mills.any(0);
        mills.refuses("there are 20, of another type", Twins.STATE, mill -> mill.addCase(false));
        mills.aboutIs(20, 2, 1, 0, 1, 0, 0);
        mills.end();
    }

    private static void addCaseUnbuilds() {
        Twins mills = lists("promise 10: what was built is no more");
        mills.make(2, 1, false);
        mills.addCase(false);
        nothingIsBuilt(mills);
        mills.build();
        mills.aboutIs(1, 0, 0, 1, 1, 2, 1);
        mills.make(2, 1, false);
        mills.aboutIs(1, 1, 0, 1, 1, 2, 1);
        mills.addCase(false);
        nothingIsBuilt(mills);
        mills.make(2, 1, true);
        mills.refuses("match", Twins.STATE, mill -> mill.match(0));
        mills.build();
        mills.aboutIs(2, 0, 1, 1, 1, 2, 1);
        mills.unusedIs(1);
        mills.is("match", mills.match(0), 0);
        mills.end();
    }

    private static void buildWithoutCases() {
        Twins mills = lists("promise 11: there are no cases");
        mills.refuses("no patterns either", Twins.STATE, MatchMill::build);
        mills.any(0);
        mills.refuses("a pattern", Twins.STATE, MatchMill::build);
        mills.addCase(false);
        mills.is("one case", mills.build(), 0);
        mills.clear();
        mills.refuses("no cases again", Twins.STATE, MatchMill::build);
        mills.end();
    }

    private static void build80Rows() {
        Twins mills = lists("promise 11: some tree of a question more than 80 rows");
        rows(mills, 0, 80);
        mills.is("80 rows", mills.build(), 1);
        mills.questionIs(0, 80, 81, 0, 0);
        mills.aboutIs(8, 0, 0, 1, 80, 1, 1);
        mills.missingIs(0, 80);
        mills.number(1, 79, true);
        mills.is("the last row", mills.match(0), 7);
        mills.number(1, 80, true);
        mills.is("none", mills.match(0), NONE);
        mills.number(1, 5, false);
        mills.addCase(false);
        mills.refuses("81 rows, the last one a case's only one", Twins.UNSUPPORTED, MatchMill::build);
        mills.refuses("81 rows again", Twins.UNSUPPORTED, MatchMill::build);
        nothingIsBuilt(mills);
        mills.number(1, 5, true);
        mills.refuses("match", Twins.STATE, mill -> mill.match(0));
        mills.end();
    }

    private static void build80RowsByEither() {
        Twins mills = lists("promise 11: some tree of a question more than 80 rows, the last one parted");
        rows(mills, 0, 70);
        eithers(mills, 70, 11);
        mills.addCase(false);
        mills.refuses("81 rows", Twins.UNSUPPORTED, MatchMill::build);
        nothingIsBuilt(mills);
        mills.end();
    }

    private static void build80RowsTakenAtOnce() {
        Twins mills = lists("promise 11: some tree that takes at once more than 80 rows");
        mills.any(1);
        mills.addCase(false);
        rows(mills, 0, 79);
        mills.is("80 rows", mills.build(), 0);
        mills.aboutIs(9, 0, 0, 0, 1, 0, 0);
        mills.number(1, 5, false);
        mills.addCase(false);
        mills.refuses("81 rows", Twins.UNSUPPORTED, MatchMill::build);
        nothingIsBuilt(mills);
        mills.end();
    }

    /** Of both trees that there are the guarded row's has the more rows. */
    private static void build80RowsBehindGuard() {
        Twins mills = lists("promise 11: some tree that takes a guarded row more than 80 rows");
        mills.any(1);
        mills.addCase(true);
        rows(mills, 0, 79);
        mills.is("80 rows", mills.build(), 1);
        mills.questionIs(0, 79, 80, 0, 0);
        mills.aboutIs(9, 0, 0, 1, 80, 1, 1);
        mills.number(1, 79, false);
        mills.addCase(false);
        mills.refuses("81 rows, 80 behind the guard", Twins.UNSUPPORTED, MatchMill::build);
        nothingIsBuilt(mills);
        mills.end();
    }

    private static void build80RowsBehindAnswer() {
        Twins mills = boxes("promise 11: some tree behind an answer more than 80 rows");
        boxedRows(mills, 0, 80);
        mills.is("80 rows", mills.build(), 2);
        mills.questionIs(0, 8, 1, 0, 0);
        mills.questionIs(1, 80, 81, 1, 1);
        mills.number(1, 79, true);
        mills.make(0, 0, true);
        mills.is("the last row", mills.match(0), 7);
        mills.any(0);
        mills.addCase(false);
        mills.refuses("81 rows, the last one as it is", Twins.UNSUPPORTED, MatchMill::build);
        nothingIsBuilt(mills);
        mills.end();
    }

    private static void build80RowsTakenBehindAnswer() {
        Twins mills = boxes("promise 11: some tree that takes at once behind an answer more than 80 rows");
        mills.any(1);
        mills.make(0, 0, false);
        mills.addCase(false);
        boxedRows(mills, 0, 79);
        mills.is("80 rows", mills.build(), 1);
        mills.aboutIs(9, 0, 0, 1, 1, 0, 1);
        mills.number(1, 0, false);
        mills.make(0, 0, false);
        mills.addCase(false);
        mills.refuses("81 rows", Twins.UNSUPPORTED, MatchMill::build);
        nothingIsBuilt(mills);
        mills.end();
    }

    private static void buildRowsPartedBehindAnswer() {
        Twins mills = boxes("promise 11: some tree behind an answer more than 80 rows, the last one parted");
        boxedRows(mills, 0, 70);
        eithers(mills, 70, 11);
        mills.make(0, 0, false);
        mills.addCase(false);
        mills.refuses("81 rows", Twins.UNSUPPORTED, MatchMill::build);
        nothingIsBuilt(mills);
        mills.end();
    }

    /** 8 rows twice, and behind each of eight answers 14 questions with 7 rows; one more row by the first case. */
    private static void build800Rows() {
        for (int more = 0; more < 2; more++) {
            Twins mills = new Twins("promise 11: the trees of all questions together more than 800 rows");
            mills.type(0, 1);
            mills.argument(0, 0, 1);
            mills.argument(0, 0, 2);
            mills.type(1, 8);
            mills.type(2, 1);
            mills.argument(2, 0, 2);
            mills.make(1, 0, false);
            deep(mills, more);
            for (int i = 0; i < 7; i++) {
                mills.any(1);
                deep(mills, 14);
            }
            if (more == 0) {
                mills.is("800 rows", mills.build(), 114);
                mills.aboutIs(8, 0, 0, 114, 9, 0, 16);
                mills.questionIs(113, 7, 1, 15, 14);
                mills.unusedIs(2, 3, 4, 5, 6, 7);
            } else {
                mills.refuses("801 rows", Twins.UNSUPPORTED, MatchMill::build);
                nothingIsBuilt(mills);
            }
            mills.end();
        }
    }

    /** The second argument, so deep, of a case whose first one lies on the pile; case 0 is guarded. */
    private static void deep(Twins mills, int depth) {
        mills.any(2);
        for (int i = 0; i < depth; i++) {
            mills.make(2, 0, false);
        }
        mills.make(0, 0, false);
        mills.addCase(mills.about(0) == 0);
    }

    /** Four arguments with eight constructors each, and a case for each argument: 1 + 1 + 8 + 64 + 512 questions. */
    private static void buildManyQuestions() {
        Twins mills = new Twins("promise 11: more than 1000 questions");
        mills.type(0, 1);
        for (int i = 0; i < 4; i++) {
            mills.argument(0, 0, 1);
        }
        mills.type(1, 8);
        mills.argument(1, 7, 2);
        mills.type(2, 8);
        for (int argument = 0; argument < 4; argument++) {
            oneOfFour(mills, argument, false);
        }
        mills.is("586 questions with 672 rows", mills.build(), 586);
        mills.aboutIs(4, 0, 0, 586, 585, 4096, 5);
        mills.questionIs(585, 1, 8, 4, 1);
        mills.refuses("question 586", Twins.ARGUMENT, mill -> mill.question(586, 0));
        for (int argument = 0; argument < 4; argument++) {
            oneOfFour(mills, argument, true);
        }
        // Of the 4096 ways all but 7 * 7 * 7 * 7 have a constructor 7, and so a question more.
        mills.refuses("more than 586 + 1695 questions", Twins.UNSUPPORTED, MatchMill::build);
        nothingIsBuilt(mills);
        mills.end();
    }

    private static void oneOfFour(Twins mills, int argument, boolean deeper) {
        for (int i = 0; i < 4; i++) {
            if (i != argument) {
                mills.any(1);
            } else if (deeper) {
                mills.make(2, 7, false);
                mills.make(1, 7, false);
            } else {
                mills.make(1, 0, false);
            }
        }
        mills.make(0, 0, false);
        mills.addCase(true);
    }

    private static void buildRefusedAndCleared() {
        Twins mills = lists("promise 11 and 20: a refused tree is forgotten with its cases");
        rows(mills, 0, 81);
        mills.refuses("81 rows", Twins.UNSUPPORTED, MatchMill::build);
        mills.clear();
        mills.type(1, 0);
        rows(mills, 0, 80);
        mills.is("80 rows", mills.build(), 1);
        mills.questionIs(0, 80, 81, 0, 0);
        mills.end();
    }

    /** Another tree on the same object is counted anew. */
    private static void buildAgain() {
        Twins mills = lists("promise 11: the tree of the cases is built, again");
        rows(mills, 0, 80);
        mills.is("80 rows", mills.build(), 1);
        mills.is("and again", mills.build(), 1);
        mills.questionIs(0, 80, 81, 0, 0);
        mills.clear();
        tellLists(mills);
        list(mills, false, 1, 2);
        mills.addCase(false);
        mills.make(0, 0, false);
        mills.addCase(false);
        mills.is("the other tree", mills.build(), 5);
        mills.aboutIs(2, 0, 0, 5, 2, 4, 5);
        mills.unusedIs();
        mills.clear();
        tellLists(mills);
        mills.any(0);
        mills.addCase(false);
        mills.any(0);
        mills.addCase(false);
        mills.is("a tree that takes at once", mills.build(), 0);
        mills.aboutIs(2, 0, 0, 0, 1, 0, 0);
        mills.unusedIs(1);
        mills.end();
    }

    /** Ten numbers for the first argument, ten for the second behind each of 11 answers, in each of 19 trees. */
    private static void buildManyTimes() {
        Twins mills = new Twins("promise 11: the tree of the cases is built, many times");
        mills.type(0, 1);
        mills.argument(0, 0, 1);
        mills.argument(0, 0, 1);
        mills.type(1, 0);
        eithers(mills, 0, 10);
        mills.any(1);
        mills.make(0, 0, false);
        mills.addCase(true);
        mills.any(1);
        eithers(mills, 0, 10);
        mills.make(0, 0, false);
        mills.addCase(true);
        for (int cases = 2; cases <= 20; cases++) {
            mills.is("build", mills.build(), 13);
            mills.questionIs(12, 8 + cases, 11);
            mills.number(1, 10, true);
            mills.number(1, 9, true);
            mills.make(0, 0, true);
            mills.is("match", mills.match(3), 1);
            mills.askedIs(0, 1, 12);
            if (cases < 20) {
                mills.any(0);
                mills.addCase(true);
            }
        }
        mills.end();
    }

    private static void matchFullPile() {
        Twins mills = lists("promise 12: the topmost value goes, until there is none");
        mills.any(1);
        mills.name(0);
        mills.addCase(false);
        mills.build();
        for (int i = 0; i < 40; i++) {
            mills.number(1, i, true);
        }
        for (int i = 39; i >= 0; i--) {
            mills.is("match", mills.match(0), 0);
            mills.boundIs(0, 0, i);
            mills.is("values", mills.about(2), i);
        }
        mills.refuses("none", Twins.STATE, mill -> mill.match(0));
        mills.clear();
        mills.type(1, 0);
        mills.number(1, 0, true);
        mills.refuses("nothing is built behind clear()", Twins.STATE, mill -> mill.match(0));
        mills.end();
    }

    private static void matchRefused() {
        Twins mills = lists("promise 12: there is none, it is of another type, or nothing is built");
        mills.refuses("none, nothing built", Twins.STATE, mill -> mill.match(0));
        mills.make(2, 0, true);
        mills.refuses("no cases", Twins.STATE, mill -> mill.match(0));
        mills.any(2);
        mills.addCase(false);
        mills.refuses("nothing is built", Twins.STATE, mill -> mill.match(0));
        mills.build();
        mills.number(1, 3, true);
        mills.refuses("another type", Twins.STATE, mill -> mill.match(0));
        mills.is("nothing went", mills.about(2), 2);
        mills.pop(true);
        mills.is("the right type", mills.match(0), 0);
        mills.is("it went", mills.about(2), 0);
        mills.refuses("none", Twins.STATE, mill -> mill.match(0));
        mills.any(2);
        mills.refuses("none, but a pattern", Twins.STATE, mill -> mill.match(0));
        mills.addCase(false);
        mills.make(2, 0, true);
        mills.refuses("no more built", Twins.STATE, mill -> mill.match(0));
        mills.end();
    }

    /** Of each value one case alone can take it, so that the bits above its own do not hide it. */
    private static void matchGuardsOfNegatives() {
        Twins mills = lists("promise 12: bit k of guards, of numbers below 0 too");
        for (int i = 0; i < 3; i++) {
            mills.make(2, i, false);
            mills.addCase(true);
        }
        mills.build();
        for (int guards : new int[] {-1, -2, -3, -4, -5, LEAST, LEAST + 2, GREATEST}) {
            for (int i = 0; i < 3; i++) {
                mills.make(2, i, true);
                mills.is("match(" + guards + ")", mills.match(guards), (guards >> i & 1) == 1 ? i : NONE);
            }
        }
        mills.end();
    }

    private static void matchGuards() {
        Twins mills = lists("promise 12: bit k of guards tells whether that of case k holds");
        for (int i = 0; i < 20; i++) {
            mills.any(2);
            mills.addCase(true);
        }
        mills.is("no questions", mills.build(), 0);
        mills.aboutIs(20, 0, 0, 0, 20, 1, 0);
        for (int i = 0; i < 20; i++) {
            mills.make(2, 0, true);
            mills.is("bit " + i, mills.match(1 << i), i);
        }
        int[][] more = {{0, NONE}, {-1, 0}, {1 << 20, NONE}, {LEAST, NONE}, {GREATEST, 0}, {0xfff80000, 19}};
        for (int[] guards : more) {
            mills.make(2, 0, true);
            mills.is("match(" + guards[0] + ")", mills.match(guards[0]), guards[1]);
        }
        mills.end();
        Twins without = lists("promise 12: a case without guard needs no bit");
        without.any(2);
        without.addCase(false);
        without.build();
        without.make(2, 0, true);
        without.is("match(0)", without.match(0), 0);
        without.make(2, 0, true);
        without.is("match(~1)", without.match(~1), 0);
        without.end();
    }

    /**
     * Type 0: three arguments of type 1 and one of type 2. Type 1: three of type 3 and one of type 4. Type 2: four of
     * type 3. Type 3: three of type 4. A value has size 60, and four cases ask for each part of it.
     */
    private static void matchTheGreatest() {
        Twins mills = new Twins("promises 12 to 15: a value of size 60, of which each part is asked for");
        int[][] arguments = {{1, 1, 1, 2}, {3, 3, 3, 4}, {3, 3, 3, 3}, {4, 4, 4}, {}};
        for (int type = 0; type < 5; type++) {
            mills.type(type, 1);
            for (int of : arguments[type]) {
                mills.argument(type, 0, of);
            }
        }
        for (int asked = 0; asked < 4; asked++) {
            for (int i = 0; i < 4; i++) {
                if (i == asked) {
                    whole(mills, arguments, arguments[0][i], false);
                } else {
                    mills.any(arguments[0][i]);
                }
            }
            mills.make(0, 0, false);
            mills.name(asked);
            mills.addCase(true);
        }
        mills.is("questions", mills.build(), 60);
        mills.aboutIs(4, 0, 0, 60, 4, 1, 60);
        mills.questionIs(59, 1, 1, 59, 3);
        whole(mills, arguments, 0, true);
        mills.is("the last case", mills.match(8), 3);
        for (int i = 0; i <= 60; i++) {
            mills.is("asked(" + i + ")", mills.asked(i), i < 60 ? i : NONE);
        }
        mills.is("bound(3)", mills.bound(3), 120);
        mills.is("boundAt(3, 118)", mills.boundAt(3, 118), 1);
        mills.is("boundAt(3, 119)", mills.boundAt(3, 119), 0);
        mills.is("boundAt(3, 120)", mills.boundAt(3, 120), NONE);
        mills.is("bound(0)", mills.bound(0), 0);
        mills.is("missing(118)", mills.missing(118), 1);
        mills.is("missing(119)", mills.missing(119), 0);
        mills.is("missing(120)", mills.missing(120), NONE);
        whole(mills, arguments, 0, true);
        mills.is("none", mills.match(0), NONE);
        mills.is("asked(59)", mills.asked(59), 59);
        mills.is("asked(60)", mills.asked(60), NONE);
        mills.end();
    }

    private static void whole(Twins mills, int[][] arguments, int type, boolean value) {
        for (int of : arguments[type]) {
            whole(mills, arguments, of, value);
        }
        mills.make(type, 0, value);
    }

    /** Two questions are asked for a list with a number, one for an end, none behind any. */
    private static Twins firstNumber(String sentence) {
        Twins mills = lists(sentence);
        mills.number(1, 5, false);
        mills.name(0);
        mills.any(0);
        mills.name(1);
        mills.make(0, 1, false);
        mills.addCase(false);
        mills.build();
        return mills;
    }

    private static void askedOutside() {
        Twins mills = firstNumber("promise 13: none if it asked not so many");
        mills.askedIs();
        list(mills, true, 5);
        mills.match(0);
        mills.askedIs(0, 1);
        for (int i : BELOW_ZERO) {
            mills.is("asked(" + i + ")", mills.asked(i), NONE);
        }
        mills.is("asked(greatest)", mills.asked(GREATEST), NONE);
        list(mills, true);
        mills.is("none takes it", mills.match(0), NONE);
        mills.askedIs(0);
        mills.clear();
        mills.type(2, 1);
        mills.any(2);
        mills.addCase(false);
        mills.build();
        mills.make(2, 0, true);
        mills.is("takes at once", mills.match(0), 0);
        mills.askedIs();
        mills.end();
    }

    private static void askedStays() {
        Twins mills = firstNumber("promise 13: also when other cases came, or were built, since");
        list(mills, true, 5);
        mills.match(0);
        mills.refuses("no value", Twins.STATE, mill -> mill.match(0));
        mills.number(1, 5, true);
        mills.refuses("another type", Twins.STATE, mill -> mill.match(0));
        mills.askedIs(0, 1);
        mills.pop(true);
        mills.any(0);
        mills.addCase(false);
        mills.askedIs(0, 1);
        list(mills, true);
        mills.refuses("nothing is built", Twins.STATE, mill -> mill.match(0));
        mills.build();
        mills.askedIs(0, 1);
        mills.is("another match", mills.match(0), 1);
        mills.askedIs(0);
        mills.clear();
        mills.askedIs();
        mills.end();
    }

    private static void boundOfNone() {
        Twins mills = firstNumber("promise 14: 0 if it took none, or the row has no such name");
        for (int name = 0; name < 8; name++) {
            mills.boundIs(name);
        }
        list(mills, true, 5);
        mills.match(0);
        mills.boundIs(0, 0, 5);
        mills.boundIs(1, 1, 0);
        for (int name = 2; name < 8; name++) {
            mills.boundIs(name);
        }
        list(mills, true, 4);
        mills.is("none takes it", mills.match(0), NONE);
        mills.boundIs(0);
        mills.boundIs(1);
        mills.any(0);
        mills.name(7);
        mills.addCase(false);
        mills.build();
        list(mills, true, 4);
        mills.is("the case with name 7", mills.match(0), 1);
        mills.boundIs(0);
        mills.boundIs(7, 1, 1, 0, 4, 1, 0);
        for (int name : new int[] {-1, 8, LEAST, GREATEST}) {
            mills.refuses("name " + name, Twins.ARGUMENT, mill -> mill.bound(name));
        }
        mills.end();
    }

    private static void boundStays() {
        Twins mills = firstNumber("promise 14: it stays as what asked() tells");
        list(mills, true, 5, 6);
        mills.match(0);
        mills.refuses("no value", Twins.STATE, mill -> mill.match(0));
        mills.any(0);
        mills.addCase(false);
        mills.boundIs(1, 1, 1, 0, 6, 1, 0);
        mills.build();
        for (int i = 0; i < 40; i++) {
            mills.number(1, i, true);
        }
        mills.refuses("another type", Twins.STATE, mill -> mill.match(0));
        mills.boundIs(0, 0, 5);
        mills.boundIs(1, 1, 1, 0, 6, 1, 0);
        mills.clear();
        mills.boundIs(0);
        mills.boundIs(1);
        mills.end();
    }

    private static void boundAtOutside() {
        Twins mills = firstNumber("promise 15: none if there are not so many");
        mills.is("no match yet", mills.boundAt(0, 0), NONE);
        list(mills, true, 5);
        mills.match(0);
        mills.boundIs(0, 0, 5);
        for (int i : BELOW_ZERO) {
            mills.is("boundAt(0, " + i + ")", mills.boundAt(0, i), NONE);
            mills.is("boundAt(2, " + i + ")", mills.boundAt(2, i), NONE);
        }
        mills.is("boundAt(0, greatest)", mills.boundAt(0, GREATEST), NONE);
        mills.is("no such name in the row", mills.boundAt(7, 0), NONE);
        for (int name : new int[] {-1, 8, LEAST, GREATEST}) {
            mills.refuses("name " + name, Twins.ARGUMENT, mill -> mill.boundAt(name, 0));
            mills.refuses("name " + name + ", behind the end", Twins.ARGUMENT, mill -> mill.boundAt(name, GREATEST));
            mills.refuses("name " + name + ", below 0", Twins.ARGUMENT, mill -> mill.boundAt(name, -1));
        }
        mills.end();
    }

    private static void missingOutside() {
        Twins mills = lists("promise 16: none behind it, if the tree never fails, or nothing is built");
        mills.missingIs();
        mills.number(1, 0, false);
        mills.addCase(false);
        mills.missingIs();
        mills.build();
        mills.missingIs(0, 1);
        for (int i : BELOW_ZERO) {
            mills.is("missing(" + i + ")", mills.missing(i), NONE);
        }
        mills.is("missing(greatest)", mills.missing(GREATEST), NONE);
        mills.any(1);
        mills.addCase(false);
        mills.missingIs();
        mills.build();
        mills.missingIs();
        mills.is("it never fails", mills.about(5), 0);
        mills.end();
    }

    private static void unusedOutside() {
        Twins mills = lists("promise 17: none if there are not so many, or nothing is built");
        mills.unusedIs();
        mills.any(2);
        mills.addCase(false);
        mills.build();
        mills.unusedIs();
        int[] due = new int[19];
        for (int i = 1; i < 20; i++) {
            mills.any(2);
            mills.addCase(i % 2 == 0);
            due[i - 1] = i;
        }
        mills.unusedIs();
        mills.build();
        mills.unusedIs(due);
        for (int i : BELOW_ZERO) {
            mills.is("unused(" + i + ")", mills.unused(i), NONE);
        }
        mills.is("unused(greatest)", mills.unused(GREATEST), NONE);
        mills.end();
        Twins rows = lists("promise 17: of a case one row that is taken is enough");
        rows.make(2, 0, false);
        rows.addCase(false);
        rows.make(2, 0, false);
        rows.make(2, 1, false);
        rows.either();
        rows.addCase(false);
        rows.make(2, 1, false);
        rows.addCase(true);
        rows.build();
        rows.unusedIs(2);
        rows.end();
    }

    private static void questionOutside() {
        Twins mills = firstNumber("promise 18: no such question, or nothing is built");
        mills.questionIs(0, 1, 2, 0, 0);
        mills.questionIs(1, 1, 2, 1, 1);
        for (int outside : new int[] {-1, 2, LEAST, GREATEST}) {
            for (int what = 0; what < 4; what++) {
                int w = what;
                mills.refuses("question " + outside, Twins.ARGUMENT, mill -> mill.question(outside, w));
            }
        }
        for (int outside : new int[] {-1, 4, LEAST, GREATEST}) {
            mills.refuses("what " + outside, Twins.ARGUMENT, mill -> mill.question(0, outside));
            mills.refuses("what " + outside, Twins.ARGUMENT, mill -> mill.question(1, outside));
            mills.refuses("both", Twins.ARGUMENT, mill -> mill.question(2, outside));
        }
        mills.any(0);
        mills.addCase(false);
        mills.refuses("no more built", Twins.ARGUMENT, mill -> mill.question(0, 0));
        mills.end();
        Twins none = lists("promise 18: a tree without questions");
        none.any(0);
        none.addCase(false);
        none.build();
        none.refuses("question 0", Twins.ARGUMENT, mill -> mill.question(0, 0));
        none.end();
    }

    private static void aboutOutside() {
        Twins mills = firstNumber("promise 19: what is 0 .. 6");
        for (int what : new int[] {-1, 7, LEAST, GREATEST}) {
            mills.refuses("about(" + what + ")", Twins.ARGUMENT, mill -> mill.about(what));
        }
        mills.any(0);
        mills.any(1);
        mills.any(2);
        list(mills, true, 5);
        mills.number(1, 5, true);
        mills.aboutIs(1, 3, 2, 2, 1, 2, 2);
        mills.end();
    }

    private static void aboutWithoutTree() {
        Twins mills = firstNumber("promise 19: 0 without what is built");
        mills.aboutIs(1, 0, 0, 2, 1, 2, 2);
        mills.any(0);
        mills.aboutIs(1, 1, 0, 2, 1, 2, 2);
        mills.addCase(true);
        mills.aboutIs(2, 0, 0, 0, 0, 0, 0);
        mills.build();
        mills.aboutIs(2, 0, 0, 2, 3, 2, 2);
        mills.end();
    }

    private static void clearAll() {
        Twins mills = firstNumber("promise 20: all is as at first");
        list(mills, true, 5);
        mills.match(0);
        list(mills, true, 5);
        mills.any(0);
        mills.clear();
        isNew(mills);
        mills.clear();
        mills.aboutIs(0, 0, 0, 0, 0, 0, 0);
        mills.type(0, 0);
        mills.type(1, 1);
        mills.is("a constructor without arguments", mills.make(1, 0, false), 1);
        mills.is("a first case of another type", mills.addCase(true), 0);
        mills.is("questions", mills.build(), 1);
        mills.missingIs(1, 0);
        mills.end();
    }

    private static void clearAtTheLimits() {
        Twins mills = new Twins("promise 20: what was full is empty");
        for (int round = 0; round < 2; round++) {
            mills.type(0, 8);
            for (int count = 1; count <= 4; count++) {
                mills.is("argument", mills.argument(0, 7, 0), count);
            }
            for (int i = 0; i < 20; i++) {
                mills.any(0);
                mills.is("case", mills.addCase(true), i);
            }
            for (int count = 1; count <= 40; count++) {
                mills.is("pattern", mills.any(0), count);
                mills.is("value", mills.make(0, 0, true), count);
            }
            mills.is("questions", mills.build(), 0);
            mills.aboutIs(20, 40, 40, 0, 20, 1, 0);
            mills.clear();
        }
        isNew(mills);
        mills.end();
    }
}
