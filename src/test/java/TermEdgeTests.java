/** Each sentence of the document before its promises that names a boundary case, by hand, on both sides of it. */
public final class TermEdgeTests {
    private static final int NONE = MatchMill.NONE;
    private static final int LEAST = Integer.MIN_VALUE;
    private static final int GREATEST = Integer.MAX_VALUE;
    // None of them is a type, a name, a question, or what question() and about() can be asked for.
    private static final int[] FAR = {-1, LEAST, GREATEST};

    public static void main(String[] args) {
        calls512();
        callsBeyond512();
        types0To15();
        noTypeOutside();
        constructors1To8();
        constructorsFromZero();
        argumentsUpTo4();
        valuesAreWhole();
        numbersAtBothEnds();
        names0To7();
        sizes();
        patternsOf24();
        patternsOf24ByEither();
        valuesOf60();
        nameTwiceInParts();
        nameTwiceOnOne();
        namesOfEithers();
        pilesOf40();
        partsFromTheTop();
        cases0To20();
        casesOfOneType();
        wishesForAnyAreLeftOut();
        namesAreBoundToTheirPlaces();
        eithersPartRows();
        eithersInEithers();
        withoutRowsItFails();
        withoutWishesItTakes();
        guardedRowsGoOn();
        answersForConstructors();
        answersForNumbers();
        rowsBehindAnswers();
        rowsWithoutWishForPlace();
        rowsBehindAnyOther();
        orderOfQuestions();
        orderBehindGuards();
        toldOfValues();
        missingNumbers();
        missingIsTheFirst();
        missingPlacesLeftAgain();
        missingAtTheDeepest();
        argumentComesBeforeState();
        Twins.report();
    }

    /** Type 0: lists, of constructor 0 (end) and 1 (a number, a list). Type 1: numbers. Type 2: three constructors. */
    private static Twins lists(String sentence) {
        Twins mills = new Twins(sentence);
        mills.type(0, 2);
        mills.argument(0, 1, 1);
        mills.argument(0, 1, 0);
        mills.type(1, 0);
        mills.type(2, 3);
        return mills;
    }

    /** Type 0: pairs, of types 1 and 1. Type 1: constructors 0 and 1. Type 2: numbers. Type 3: pairs of numbers. */
    private static Twins pairs(String sentence) {
        Twins mills = new Twins(sentence);
        mills.type(0, 1);
        mills.argument(0, 0, 1);
        mills.argument(0, 0, 1);
        mills.type(1, 2);
        mills.type(2, 0);
        mills.type(3, 1);
        mills.argument(3, 0, 2);
        mills.argument(3, 0, 2);
        return mills;
    }

    /** Type 0: constructor 0 without arguments, and 1 to 4 with so many of type 0. */
    private static Twins bushes(String sentence) {
        Twins mills = new Twins(sentence);
        mills.type(0, 5);
        for (int constructor = 1; constructor <= 4; constructor++) {
            for (int i = 0; i < constructor; i++) {
                mills.argument(0, constructor, 0);
            }
        }
        return mills;
    }

    /** A bush of that size, each with one argument; constructor 0 ends it. */
    private static void chain(Twins mills, int size, boolean value) {
        mills.make(0, 0, value);
        for (int i = 1; i < size; i++) {
            mills.make(0, 1, value);
        }
    }

    /** Constructors of type 1, or any for NONE. */
    private static void pair(Twins mills, int first, int second, boolean value) {
        leaf(mills, first, value);
        leaf(mills, second, value);
        mills.make(0, 0, value);
    }

    private static void leaf(Twins mills, int constructor, boolean value) {
        if (constructor == NONE) {
            mills.any(1);
        } else {
            mills.make(1, constructor, value);
        }
    }

    private static void calls512() {
        Twins mills = lists("an object is used for at most 512 calls");
        mills.any(0);
        mills.addCase(false);
        while (mills.calls() < 512 - 7) {
            mills.is("build", mills.build(), 0);
            mills.make(0, 0, true);
            mills.is("match", mills.match(0), 0);
        }
        while (mills.calls() < 512 - 5) {
            mills.is("pop", mills.pop(true), 0);
        }
        mills.number(1, 8, true);
        mills.make(0, 0, true);
        mills.make(0, 1, true);
        mills.refuses("name(8), call 511", Twins.ARGUMENT, mill -> mill.name(8));
        mills.is("match, call 512", mills.match(0), 0);
        mills.is("calls", mills.calls(), 512);
    }

    /** What they answer is free, but they end, and throw nothing that the document does not name. */
    private static void callsBeyond512() {
        Twins mills = new Twins("what later calls answer is free");
        MatchMill mill = new MatchMill();
        int strange = 0;
        for (int i = 0; i < 20000; i++) {
            try {
                laterCall(mill, i % 23, i / 23 % 5 - 1);
            } catch (IllegalArgumentException | IllegalStateException | UnsupportedOperationException e) {
                continue;
            } catch (RuntimeException e) {
                strange++;
            }
        }
        mills.is("strange exceptions", strange, 0);
    }

    private static void laterCall(MatchMill mill, int which, int x) {
        switch (which) {
            case 0 -> mill.type(x, x);
            case 1 -> mill.argument(x, 0, x);
            case 2, 3, 4 -> mill.any(x);
            case 5 -> mill.number(x, x, true);
            case 6 -> mill.number(x, x, false);
            case 7 -> mill.make(x, 0, false);
            case 8, 9, 10 -> mill.make(x, 0, true);
            case 11 -> mill.either();
            case 12 -> mill.name(x);
            case 13 -> mill.pop(x > 0);
            case 14 -> mill.addCase(x > 0);
            case 15 -> mill.build();
            case 16 -> mill.match(x);
            case 17 -> mill.asked(x);
            case 18 -> mill.bound(x);
            case 19 -> mill.boundAt(x, x);
            case 20 -> mill.missing(x);
            case 21 -> mill.unused(x);
            default -> mill.question(x, x);
        }
    }

    private static void types0To15() {
        Twins mills = new Twins("types are 0 .. 15");
        for (int type = 0; type < 16; type++) {
            mills.type(type, 1);
        }
        mills.is("of the last type", mills.argument(0, 0, 15), 1);
        mills.is("of the first type", mills.argument(15, 0, 0), 1);
        mills.is("any of the first", mills.any(0), 1);
        mills.is("the last with the first", mills.make(15, 0, false), 1);
        mills.is("the first with the last", mills.make(0, 0, false), 1);
        mills.is("size", mills.pop(false), 3);
        mills.end();
    }

    private static void noTypeOutside() {
        Twins mills = new Twins("there is no such type");
        mills.type(0, 1);
        mills.type(15, 0);
        for (int type : new int[] {-1, 16, LEAST, GREATEST}) {
            mills.refuses("type " + type, Twins.ARGUMENT, mill -> mill.type(type, 1));
            mills.refuses("argument, type " + type, Twins.ARGUMENT, mill -> mill.argument(type, 0, 0));
            mills.refuses("argument of type " + type, Twins.ARGUMENT, mill -> mill.argument(0, 0, type));
            mills.refuses("any of type " + type, Twins.ARGUMENT, mill -> mill.any(type));
            mills.refuses("number of type " + type, Twins.ARGUMENT, mill -> mill.number(type, 0, true));
            mills.refuses("number of type " + type, Twins.ARGUMENT, mill -> mill.number(type, 0, false));
            mills.refuses("make of type " + type, Twins.ARGUMENT, mill -> mill.make(type, 0, true));
            mills.refuses("make of type " + type, Twins.ARGUMENT, mill -> mill.make(type, 0, false));
        }
        mills.end();
    }

    private static void constructors1To8() {
        Twins mills = new Twins("a type is of numbers or has 1 .. 8 constructors");
        for (int constructors : new int[] {-1, 9, LEAST, GREATEST}) {
            mills.refuses(constructors + " constructors", Twins.ARGUMENT, mill -> mill.type(0, constructors));
        }
        mills.type(0, 0);
        mills.type(1, 1);
        mills.type(2, 8);
        mills.is("number", mills.number(0, 3, false), 1);
        mills.refuses("a number of a type with one constructor", Twins.ARGUMENT, mill -> mill.number(1, 3, false));
        mills.refuses("a number of a type with eight", Twins.ARGUMENT, mill -> mill.number(2, 3, false));
        mills.refuses("constructor 0 of numbers", Twins.ARGUMENT, mill -> mill.make(0, 0, false));
        mills.end();
    }

    private static void constructorsFromZero() {
        Twins mills = new Twins("constructors are 0, 1, ..");
        for (int type = 0; type <= 8; type++) {
            mills.type(type, type);
        }
        for (int type = 1; type <= 8; type++) {
            int t = type;
            mills.is("the first one", mills.make(t, 0, true), 2 * t - 1);
            mills.is("the last one", mills.make(t, t - 1, true), 2 * t);
            mills.refuses("the one behind it", Twins.ARGUMENT, mill -> mill.make(t, t, true));
            mills.refuses("the one behind it", Twins.ARGUMENT, mill -> mill.argument(t, t, 0));
            for (int constructor : FAR) {
                mills.refuses("constructor " + constructor, Twins.ARGUMENT, mill -> mill.make(t, constructor, true));
                mills.refuses("constructor " + constructor, Twins.ARGUMENT, mill -> mill.argument(t, constructor, 0));
            }
        }
        mills.end();
    }

    private static void argumentsUpTo4() {
        Twins mills = new Twins("each constructor has up to 4 arguments");
        mills.type(15, 8);
        mills.type(0, 0);
        for (int count = 1; count <= 4; count++) {
            mills.is("argument", mills.argument(15, 7, 0), count);
        }
        mills.refuses("a fifth", Twins.STATE, mill -> mill.argument(15, 7, 0));
        mills.is("another constructor has its own", mills.argument(15, 6, 0), 1);
        for (int i = 1; i <= 3; i++) {
            mills.number(0, i, true);
        }
        mills.refuses("three parts for four arguments", Twins.STATE, mill -> mill.make(15, 7, true));
        mills.is("a fourth part", mills.number(0, 4, true), 4);
        mills.is("four parts", mills.make(15, 7, true), 1);
        mills.is("size", mills.pop(true), 5);
        mills.is("none for a constructor without arguments", mills.make(15, 5, true), 1);
        mills.is("size", mills.pop(true), 1);
        mills.end();
    }

    private static void valuesAreWhole() {
        Twins mills = lists("a value is a number, or a constructor with a value for each argument");
        mills.any(1);
        mills.make(0, 0, false);
        mills.refuses("parts among the patterns", Twins.STATE, mill -> mill.make(0, 1, true));
        mills.number(1, 5, true);
        mills.refuses("a value for one argument alone", Twins.STATE, mill -> mill.make(0, 1, true));
        mills.make(0, 0, true);
        mills.is("for both", mills.make(0, 1, true), 1);
        mills.end();
    }

    private static void numbersAtBothEnds() {
        Twins mills = pairs("answers for numbers are rising, over all of int");
        int[] falling = {GREATEST, 1, 0, -1, LEAST};
        for (int number : falling) {
            mills.number(2, number, false);
            mills.number(2, number, false);
            mills.make(3, 0, false);
            mills.addCase(false);
        }
        mills.is("questions", mills.build(), 7);
        mills.questionIs(1, 5, 6, 1, 1);
        for (int i = 0; i < falling.length; i++) {
            mills.number(2, falling[i], true);
            mills.number(2, falling[i], true);
            mills.make(3, 0, true);
            mills.is("match", mills.match(0), i);
            mills.askedIs(0, 1, 6 - i);
        }
        for (int number : new int[] {GREATEST - 1, LEAST + 1, 2, -2}) {
            mills.number(2, number, true);
            mills.number(2, number, true);
            mills.make(3, 0, true);
            mills.is("any other number", mills.match(0), NONE);
            mills.askedIs(0, 1);
        }
        mills.end();
    }

    private static void names0To7() {
        Twins mills = lists("names are 0 .. 7");
        mills.any(2);
        for (int name : new int[] {-1, 8, LEAST, GREATEST}) {
            mills.refuses("name " + name, Twins.ARGUMENT, mill -> mill.name(name));
            mills.refuses("bound, name " + name, Twins.ARGUMENT, mill -> mill.bound(name));
            mills.refuses("boundAt, name " + name, Twins.ARGUMENT, mill -> mill.boundAt(name, 0));
        }
        for (int name = 0; name < 8; name++) {
            mills.is("name " + name, mills.name(name), name + 1);
        }
        for (int name = 0; name < 8; name++) {
            int n = name;
            mills.refuses("name " + n + " again", Twins.STATE, mill -> mill.name(n));
        }
        mills.addCase(false);
        mills.build();
        mills.make(2, 1, true);
        mills.match(0);
        for (int name = 0; name < 8; name++) {
            mills.boundIs(name, 1, 1);
        }
        mills.end();
    }

    private static void sizes() {
        Twins mills = bushes("its size is 1, and for a constructor and either that of all parts more");
        mills.type(1, 0);
        mills.any(0);
        mills.is("any", mills.pop(false), 1);
        mills.number(1, GREATEST, false);
        mills.is("a number", mills.pop(false), 1);
        for (boolean value : new boolean[] {true, false}) {
            for (int arguments = 0; arguments <= 4; arguments++) {
                for (int i = 0; i < arguments; i++) {
                    chain(mills, 2, value);
                }
                mills.make(0, arguments, value);
                mills.is("a constructor with " + arguments, mills.pop(value), 1 + 2 * arguments);
            }
        }
        mills.any(0);
        mills.name(1);
        mills.is("a name adds none", mills.pop(false), 1);
        mills.any(0);
        chain(mills, 3, false);
        mills.either();
        mills.name(2);
        mills.is("either", mills.pop(false), 5);
        mills.end();
    }

    private static void patternsOf24() {
        Twins mills = bushes("patterns have a size up to 24");
        chain(mills, 24, false);
        mills.refuses("25 by one part", Twins.STATE, mill -> mill.make(0, 1, false));
        mills.is("a name adds none", mills.name(0), 1);
        mills.is("size", mills.pop(false), 24);
        chain(mills, 11, false);
        chain(mills, 12, false);
        mills.is("24 by two parts", mills.make(0, 2, false), 1);
        mills.is("size", mills.pop(false), 24);
        chain(mills, 12, false);
        chain(mills, 12, false);
        mills.refuses("25 by two parts", Twins.STATE, mill -> mill.make(0, 2, false));
        mills.pop(false);
        mills.pop(false);
        for (int i = 0; i < 3; i++) {
            mills.any(0);
        }
        chain(mills, 20, false);
        mills.is("24 by four parts", mills.make(0, 4, false), 1);
        mills.is("size", mills.pop(false), 24);
        for (int i = 0; i < 3; i++) {
            mills.any(0);
        }
        chain(mills, 21, false);
        mills.refuses("25 by four parts", Twins.STATE, mill -> mill.make(0, 4, false));
        mills.is("patterns", mills.about(1), 4);
        mills.end();
    }

    private static void patternsOf24ByEither() {
        Twins mills = bushes("patterns have a size up to 24, eithers too");
        mills.any(0);
        chain(mills, 22, false);
        mills.is("24", mills.either(), 1);
        mills.refuses("25 by one part", Twins.STATE, mill -> mill.make(0, 1, false));
        mills.is("size", mills.pop(false), 24);
        mills.any(0);
        chain(mills, 23, false);
        mills.refuses("25", Twins.STATE, MatchMill::either);
        mills.pop(false);
        mills.pop(false);
        chain(mills, 12, false);
        chain(mills, 12, false);
        mills.refuses("25 of two halves", Twins.STATE, MatchMill::either);
        mills.end();
    }

    private static void valuesOf60() {
        Twins mills = bushes("values have a size up to 60");
        chain(mills, 24, true);
        mills.is("25 is not too great for a value", mills.make(0, 1, true), 1);
        mills.pop(true);
        chain(mills, 60, true);
        mills.refuses("61 by one part", Twins.STATE, mill -> mill.make(0, 1, true));
        mills.is("size", mills.pop(true), 60);
        chain(mills, 29, true);
        chain(mills, 30, true);
        mills.is("60 by two parts", mills.make(0, 2, true), 1);
        mills.is("size", mills.pop(true), 60);
        for (int i = 0; i < 4; i++) {
            chain(mills, 15, true);
        }
        mills.refuses("61 by four parts", Twins.STATE, mill -> mill.make(0, 4, true));
        mills.is("values", mills.about(2), 4);
        mills.is("size of the topmost", mills.pop(true), 15);
        chain(mills, 14, true);
        mills.is("60 by four parts", mills.make(0, 4, true), 1);
        mills.end();
    }

    private static void nameTwiceInParts() {
        Twins mills = bushes("in a pattern no name stands twice");
        for (int first = 0; first < 4; first++) {
            for (int second = first + 1; second < 4; second++) {
                for (int part = 0; part < 4; part++) {
                    mills.any(0);
                    if (part == first || part == second) {
                        mills.name(6);
                    }
                }
                mills.refuses("in parts " + first + " and " + second, Twins.STATE, mill -> mill.make(0, 4, false));
                for (int part = 0; part < 4; part++) {
                    mills.pop(false);
                }
            }
        }
        mills.any(0);
        mills.name(0);
        mills.make(0, 1, false);
        mills.name(1);
        mills.any(0);
        mills.name(0);
        mills.name(2);
        mills.make(0, 1, false);
        mills.refuses("in parts of parts", Twins.STATE, mill -> mill.make(0, 2, false));
        mills.pop(false);
        mills.any(0);
        mills.name(2);
        mills.is("other names", mills.make(0, 2, false), 1);
        mills.is("all of them", mills.name(7), 4);
        mills.end();
    }

    private static void nameTwiceOnOne() {
        Twins mills = bushes("in a pattern no name stands twice, also not on itself");
        mills.any(0);
        mills.name(3);
        mills.refuses("on one pattern", Twins.STATE, mill -> mill.name(3));
        mills.make(0, 1, false);
        mills.refuses("on what it is a part of", Twins.STATE, mill -> mill.name(3));
        mills.any(0);
        mills.is("on another pattern", mills.name(3), 1);
        mills.addCase(false);
        mills.is("in another case", mills.addCase(false), 1);
        mills.end();
    }

    private static void namesOfEithers() {
        Twins mills = bushes("both parts of an either have the same names");
        mills.any(0);
        mills.any(0);
        mills.name(0);
        mills.refuses("none and one", Twins.STATE, MatchMill::either);
        mills.any(0);
        mills.refuses("one and none", Twins.STATE, MatchMill::either);
        mills.name(1);
        mills.refuses("one and another", Twins.STATE, MatchMill::either);
        mills.name(0);
        mills.refuses("one and two", Twins.STATE, MatchMill::either);
        mills.any(0);
        mills.name(0);
        mills.make(0, 1, false);
        mills.name(1);
        mills.is("the same two, elsewhere", mills.either(), 3);
        mills.refuses("two stand in it, once each", Twins.STATE, mill -> mill.name(1));
        mills.is("a third", mills.name(2), 3);
        mills.any(0);
        mills.name(1);
        mills.refuses("a name of both parts and beside", Twins.STATE, mill -> mill.make(0, 2, false));
        mills.end();
    }

    private static void pilesOf40() {
        Twins mills = lists("piles of at most 40 each");
        for (int count = 1; count <= 40; count++) {
            mills.is("patterns", mills.any(1), count);
            mills.is("values", mills.number(1, count, true), count);
        }
        mills.refuses("41 by any", Twins.STATE, mill -> mill.any(1));
        mills.refuses("41 by number", Twins.STATE, mill -> mill.number(1, 0, false));
        mills.refuses("41 by number", Twins.STATE, mill -> mill.number(1, 0, true));
        mills.refuses("41 by make", Twins.STATE, mill -> mill.make(0, 0, false));
        mills.refuses("41 by make", Twins.STATE, mill -> mill.make(0, 0, true));
        mills.pop(true);
        mills.is("40 again", mills.make(0, 0, true), 40);
        mills.refuses("41 of the patterns still", Twins.STATE, mill -> mill.make(0, 0, false));
        mills.end();
    }

    private static void partsFromTheTop() {
        Twins mills = pairs("parts come from the top, the last one being the topmost");
        mills.number(2, 7, true);
        mills.number(2, 8, true);
        mills.number(2, 9, true);
        mills.is("what lies below stays", mills.make(3, 0, true), 2);
        mills.any(3);
        mills.name(0);
        mills.addCase(false);
        mills.build();
        mills.match(0);
        mills.boundIs(0, 1, 0, 0, 8, 0, 9);
        mills.is("the one below", mills.pop(true), 1);
        mills.end();
    }

    private static void cases0To20() {
        Twins mills = lists("cases are up to 20");
        mills.refuses("no case", Twins.STATE, MatchMill::build);
        mills.aboutIs(0, 0, 0, 0, 0, 0, 0);
        mills.make(2, 0, false);
        mills.is("the first", mills.addCase(false), 0);
        mills.is("one case", mills.build(), 1);
        mills.aboutIs(1, 0, 0, 1, 1, 2, 1);
        for (int i = 1; i < 20; i++) {
            mills.make(2, 1, false);
            mills.is("case", mills.addCase(true), i);
        }
        mills.is("20 cases", mills.build(), 1);
        mills.aboutIs(20, 0, 0, 1, 20, 2, 1);
        mills.any(2);
        mills.refuses("one more", Twins.STATE, mill -> mill.addCase(false));
        mills.aboutIs(20, 1, 0, 1, 20, 2, 1);
        mills.make(2, 1, true);
        mills.is("the last one's guard", mills.match(1 << 19), 19);
        mills.end();
    }

    private static void casesOfOneType() {
        Twins mills = lists("cases are patterns of one type");
        mills.any(0);
        mills.any(1);
        mills.any(2);
        mills.addCase(false);
        mills.refuses("of type 1", Twins.STATE, mill -> mill.addCase(false));
        mills.pop(false);
        mills.refuses("of type 0", Twins.STATE, mill -> mill.addCase(false));
        mills.any(2);
        mills.is("of type 2", mills.addCase(false), 1);
        mills.end();
    }

    private static void wishesForAnyAreLeftOut() {
        Twins mills = pairs("wishes for any are left out");
        pair(mills, NONE, NONE, false);
        mills.addCase(false);
        mills.is("the pair alone is asked for", mills.build(), 1);
        mills.aboutIs(1, 0, 0, 1, 1, 0, 1);
        Twins second = pairs("wishes for any are left out, the first of two");
        pair(second, NONE, 1, false);
        second.addCase(false);
        second.is("the pair and its second", second.build(), 2);
        pair(second, 0, 1, true);
        second.is("match", second.match(0), 0);
        second.askedIs(0, 1);
        second.missingIs(1, 0, 2, 0, 1, 0);
        second.end();
        mills.end();
    }

    private static void namesAreBoundToTheirPlaces() {
        Twins mills = pairs("a name is bound to its place, and the pattern that it has is wished there");
        mills.any(1);
        mills.name(0);
        mills.make(1, 1, false);
        mills.name(1);
        mills.make(0, 0, false);
        mills.name(2);
        mills.addCase(false);
        mills.is("any with a name is not asked for", mills.build(), 2);
        pair(mills, 0, 0, true);
        mills.is("what has a name is wished", mills.match(0), NONE);
        pair(mills, 0, 1, true);
        mills.is("match", mills.match(0), 0);
        mills.boundIs(0, 1, 0);
        mills.boundIs(1, 1, 1);
        mills.boundIs(2, 1, 0, 1, 0, 1, 1);
        mills.boundIs(3);
        mills.end();
    }

    private static void eithersPartRows() {
        Twins mills = pairs("while a wish is an either the row is parted in two");
        for (int i = 0; i < 2; i++) {
            mills.make(1, 0, false);
            mills.make(1, 1, false);
            mills.either();
        }
        mills.make(0, 0, false);
        mills.addCase(false);
        mills.is("questions", mills.build(), 4);
        mills.questionIs(0, 1, 1, 0, 0);
        mills.questionIs(1, 4, 2, 1, 1);
        mills.questionIs(2, 2, 2, 2, 1);
        mills.questionIs(3, 2, 2, 2, 1);
        mills.aboutIs(1, 0, 0, 4, 4, 0, 3);
        Twins whole = pairs("an either of the whole value is parted before the first question");
        pair(whole, 0, NONE, false);
        pair(whole, NONE, 0, false);
        whole.either();
        whole.addCase(false);
        whole.is("questions", whole.build(), 3);
        whole.questionIs(0, 2, 1, 0, 0);
        Twins anyFirst = pairs("the row with the first one before the other: any first");
        anyFirst.any(1);
        anyFirst.make(1, 0, false);
        anyFirst.either();
        anyFirst.addCase(false);
        anyFirst.is("takes at once", anyFirst.build(), 0);
        anyFirst.aboutIs(1, 0, 0, 0, 1, 0, 0);
        anyFirst.end();
        whole.end();
        mills.end();
    }

    /** Each of the parts has name 0 elsewhere, which tells them apart. */
    private static void eithersInEithers() {
        for (int shape = 0; shape < 2; shape++) {
            Twins mills = pairs("the row with the first one before the other, of eithers in eithers: " + shape);
            mills.make(1, 0, false);
            mills.make(1, 1, false);
            mills.make(0, 0, false);
            mills.name(0);
            mills.any(1);
            mills.name(0);
            mills.any(1);
            mills.make(0, 0, false);
            if (shape == 0) {
                mills.either();
            }
            mills.any(1);
            mills.any(1);
            mills.name(0);
            mills.make(0, 0, false);
            mills.either();
            if (shape == 1) {
                mills.either();
            }
            mills.addCase(false);
            mills.build();
            mills.questionIs(0, 3, 1, 0, 0);
            pair(mills, 0, 1, true);
            mills.match(0);
            mills.boundIs(0, 1, 0, 1, 0, 1, 1);
            pair(mills, 1, 0, true);
            mills.match(0);
            mills.boundIs(0, 1, 1);
            mills.end();
        }
    }

    private static void withoutRowsItFails() {
        Twins mills = lists("without rows the tree fails: behind an answer");
        mills.make(2, 1, false);
        mills.addCase(false);
        mills.build();
        mills.aboutIs(1, 0, 0, 1, 1, 2, 1);
        mills.make(2, 2, true);
        mills.is("match", mills.match(-1), NONE);
        mills.askedIs(0);
        mills.end();
        Twins guarded = lists("without rows the tree fails: behind a guard");
        guarded.any(2);
        guarded.addCase(true);
        guarded.build();
        guarded.aboutIs(1, 0, 0, 0, 1, 1, 0);
        guarded.missingIs(2, 0);
        guarded.make(2, 2, true);
        guarded.is("match", guarded.match(~1), NONE);
        guarded.askedIs();
        guarded.end();
    }

    private static void withoutWishesItTakes() {
        Twins mills = lists("if the first row has no wishes the tree takes that one");
        mills.any(2);
        mills.addCase(false);
        for (int i = 0; i < 3; i++) {
            mills.make(2, i, false);
            mills.addCase(true);
        }
        mills.is("at once", mills.build(), 0);
        mills.aboutIs(4, 0, 0, 0, 1, 0, 0);
        mills.unusedIs(1, 2, 3);
        mills.missingIs();
        mills.make(2, 1, true);
        mills.is("match", mills.match(-1), 0);
        mills.askedIs();
        mills.end();
    }

    private static void guardedRowsGoOn() {
        Twins mills = lists("if its case is guarded the tree of all rows of other cases is behind it");
        mills.any(2);
        mills.make(2, 0, false);
        mills.either();
        mills.any(2);
        mills.either();
        mills.addCase(true);
        mills.make(2, 1, false);
        mills.addCase(true);
        mills.is("no question for case 0's other rows", mills.build(), 1);
        mills.questionIs(0, 1, 3, 0, 0);
        mills.aboutIs(2, 0, 0, 1, 2, 3, 1);
        mills.make(2, 1, true);
        mills.is("both guards hold", mills.match(3), 0);
        mills.askedIs();
        mills.make(2, 1, true);
        mills.is("the second holds", mills.match(2), 1);
        mills.askedIs(0);
        mills.make(2, 1, true);
        mills.is("none holds", mills.match(0), NONE);
        mills.askedIs(0);
        mills.end();
    }

    private static void answersForConstructors() {
        for (int constructors = 1; constructors <= 8; constructors++) {
            Twins mills = new Twins("answers, one for each constructor: " + constructors);
            mills.type(0, constructors);
            mills.make(0, constructors - 1, false);
            mills.addCase(false);
            mills.is("questions", mills.build(), 1);
            mills.questionIs(0, 1, constructors, 0, 0);
            mills.is("takes", mills.about(4), 1);
            mills.is("fails", mills.about(5), constructors - 1);
            mills.end();
        }
    }

    private static void answersForNumbers() {
        Twins mills = lists("answers, one for each number that any row wishes there, and one for any other number");
        mills.number(1, 5, false);
        mills.addCase(false);
        mills.build();
        mills.questionIs(0, 1, 2, 0, 0);
        mills.number(1, 5, false);
        mills.addCase(false);
        mills.build();
        mills.questionIs(0, 2, 2, 0, 0);
        mills.any(1);
        mills.addCase(true);
        mills.number(1, 4, false);
        mills.addCase(false);
        mills.is("questions", mills.build(), 1);
        mills.questionIs(0, 4, 3, 0, 0);
        // 4: guarded, then 4; 5: the first; other: guarded, then it fails.
        mills.aboutIs(4, 0, 0, 1, 4, 1, 1);
        mills.unusedIs(1);
        mills.end();
    }

    private static void rowsBehindAnswers() {
        Twins mills = bushes("behind each answer are the rows that may be so");
        chain(mills, 1, false);
        for (int i = 0; i < 3; i++) {
            mills.any(0);
        }
        mills.make(0, 4, false);
        mills.addCase(false);
        for (int i = 0; i < 3; i++) {
            mills.any(0);
        }
        chain(mills, 1, false);
        mills.make(0, 4, false);
        mills.addCase(false);
        chain(mills, 2, false);
        mills.addCase(false);
        mills.is("questions", mills.build(), 7);
        mills.questionIs(0, 3, 5, 0, 0);
        // Behind one argument: case 2 alone. Behind four: the first argument, then the fourth behind all but one.
        mills.questionIs(1, 1, 5, 1, 1);
        mills.questionIs(2, 2, 5, 1, 1);
        mills.questionIs(3, 1, 5, 2, 1);
        mills.questionIs(6, 1, 5, 2, 1);
        mills.refuses("no question more", Twins.ARGUMENT, mill -> mill.question(7, 0));
        mills.end();
    }

    private static void rowsWithoutWishForPlace() {
        Twins mills = pairs("behind each answer are those without a wish for that place, as they are");
        pair(mills, NONE, 1, false);
        mills.addCase(false);
        pair(mills, 0, NONE, false);
        mills.addCase(false);
        mills.is("questions", mills.build(), 3);
        mills.questionIs(1, 2, 2, 1, 1);
        mills.questionIs(2, 1, 2, 2, 1);
        int[] due = {1, 0, NONE, 0};
        for (int i = 0; i < 4; i++) {
            pair(mills, i / 2, i % 2, true);
            mills.is("match " + i, mills.match(0), due[i]);
        }
        mills.unusedIs();
        mills.missingIs(1, 0, 1, 1, 1, 0);
        mills.end();
    }

    private static void rowsBehindAnyOther() {
        Twins mills = pairs("behind the answer for any other number are the rows that wish none there");
        for (int i = 0; i < 2; i++) {
            mills.number(2, 5 + i, false);
            mills.any(2);
            mills.make(3, 0, false);
            mills.addCase(false);
        }
        mills.any(2);
        mills.number(2, 9, false);
        mills.make(3, 0, false);
        mills.addCase(false);
        mills.is("questions", mills.build(), 3);
        mills.questionIs(1, 3, 3, 1, 1);
        mills.questionIs(2, 1, 2, 2, 1);
        int[] firsts = {5, 6, 4, 7, 9, 0, LEAST, GREATEST};
        for (int i = 0; i < firsts.length; i++) {
            mills.number(2, firsts[i], true);
            mills.number(2, 9, true);
            mills.make(3, 0, true);
            mills.is("match " + firsts[i], mills.match(0), Math.min(i, 2));
        }
        mills.askedIs(0, 1, 2);
        mills.missingIs(1, 0, 0, 0, 0, 0);
        mills.end();
    }

    private static void orderOfQuestions() {
        Twins mills = bushes("each question is before those behind its answers, these answer by answer");
        for (int constructor = 1; constructor <= 4; constructor++) {
            for (int i = 1; i < constructor; i++) {
                mills.any(0);
            }
            chain(mills, 1, false);
            mills.make(0, constructor, false);
            mills.addCase(false);
        }
        mills.is("questions", mills.build(), 5);
        for (int constructor = 4; constructor >= 1; constructor--) {
            for (int i = 0; i < constructor; i++) {
                chain(mills, 1, true);
            }
            mills.make(0, constructor, true);
            mills.is("match", mills.match(0), constructor - 1);
            mills.askedIs(0, constructor);
        }
        mills.end();
    }

    private static void orderBehindGuards() {
        Twins mills = pairs("questions behind a guarded row are where that is");
        pair(mills, 0, NONE, false);
        mills.addCase(true);
        pair(mills, NONE, 1, false);
        mills.addCase(false);
        mills.is("questions", mills.build(), 4);
        mills.questionIs(2, 1, 2, 2, 1);
        pair(mills, 0, 1, true);
        mills.is("match", mills.match(0), 1);
        mills.askedIs(0, 1, 2);
        pair(mills, 1, 1, true);
        mills.is("match", mills.match(1), 1);
        mills.askedIs(0, 1, 3);
        mills.end();
    }

    private static void toldOfValues() {
        Twins mills = lists("told of a value are two numbers for it, then those for its arguments");
        mills.any(0);
        mills.name(0);
        mills.addCase(false);
        mills.build();
        mills.make(0, 0, true);
        mills.match(0);
        mills.boundIs(0, 1, 0);
        mills.number(1, LEAST, true);
        mills.number(1, GREATEST, true);
        mills.make(0, 0, true);
        mills.make(0, 1, true);
        mills.make(0, 1, true);
        mills.match(0);
        mills.boundIs(0, 1, 1, 0, LEAST, 1, 1, 0, GREATEST, 1, 0);
        mills.end();
        Twins any = lists("told of any are 2 and 0");
        any.any(1);
        any.addCase(true);
        any.build();
        any.missingIs(2, 0);
        any.end();
    }

    private static void missingNumbers() {
        missingNumber("without 0", 0, 1, 2, 3);
        missingNumber("behind 0", 1, 0);
        missingNumber("behind 0 and 1, whatever their order", 2, 1, 0, 1);
        missingNumber("in a gap", 2, 0, 1, 3, 4);
        missingNumber("none below 0", 0, -1, -2, LEAST);
        missingNumber("below 0 and 0", 1, -1, 0, LEAST);
        missingNumber("the greatest", 0, GREATEST);
        missingNumber("behind 18 of them", 18, 17, 16, 15, 14, 13, 12, 11, 10, 9, 8, 7, 6, 5, 4, 3, 2, 1, 0);
    }

    private static void missingNumber(String which, int due, int... wished) {
        Twins mills = lists("missing, any other number is the least from 0 on that is none of those: " + which);
        for (int number : wished) {
            mills.number(1, number, false);
            mills.addCase(false);
        }
        mills.build();
        mills.missingIs(0, due);
        mills.number(1, due, true);
        mills.is("none takes it", mills.match(-1), NONE);
        mills.end();
    }

    private static void missingIsTheFirst() {
        Twins mills = pairs("missing is told of the first place where the tree fails, in the order of questions");
        pair(mills, 1, 0, false);
        mills.addCase(false);
        mills.build();
        mills.missingIs(1, 0, 1, 0, 2, 0);
        pair(mills, 0, NONE, false);
        mills.addCase(false);
        mills.build();
        mills.missingIs(1, 0, 1, 1, 1, 1);
        pair(mills, NONE, NONE, false);
        mills.addCase(true);
        mills.build();
        // The guarded case comes before the fail behind it.
        mills.missingIs(1, 0, 1, 1, 1, 1);
        mills.unusedIs();
        pair(mills, NONE, NONE, false);
        mills.addCase(false);
        mills.build();
        mills.missingIs();
        mills.end();
    }

    /** A place with arguments of its own was answered behind an earlier answer alone: it is any at the fail. */
    private static void missingPlacesLeftAgain() {
        Twins mills = new Twins("missing, any elsewhere than what was answered on the way");
        mills.type(0, 1);
        mills.argument(0, 0, 1);
        mills.argument(0, 0, 2);
        mills.type(1, 2);
        mills.type(2, 2);
        mills.argument(2, 1, 1);
        mills.argument(2, 1, 1);
        mills.make(1, 0, false);
        mills.any(1);
        mills.make(1, 0, false);
        mills.make(2, 1, false);
        mills.make(0, 0, false);
        mills.addCase(false);
        mills.make(1, 0, false);
        mills.any(2);
        mills.make(0, 0, false);
        mills.addCase(false);
        mills.is("questions", mills.build(), 4);
        mills.missingIs(1, 0, 1, 1, 2, 0);
        mills.end();
    }

    /** Constructor 0 has an argument, so that the way with all of them is the first, and fails at its end. */
    private static void missingAtTheDeepest() {
        Twins mills = new Twins("missing at the deepest place that a pattern of size 24 can ask for");
        mills.type(0, 2);
        mills.argument(0, 0, 0);
        mills.make(0, 1, false);
        for (int i = 1; i < 24; i++) {
            mills.make(0, 0, false);
        }
        mills.addCase(false);
        mills.is("questions", mills.build(), 24);
        mills.questionIs(23, 1, 2, 23, 23);
        int[] told = new int[50];
        for (int i = 0; i < 24; i++) {
            told[2 * i] = 1;
        }
        told[48] = 2;
        mills.missingIs(told);
        mills.end();
    }

    private static void argumentComesBeforeState() {
        Twins mills = lists("of several exceptions that fit the one named first is thrown");
        for (int i = 0; i < 40; i++) {
            mills.any(0);
            mills.number(1, i, true);
        }
        mills.refuses("type told and made, 9 constructors", Twins.ARGUMENT, mill -> mill.type(0, 9));
        mills.refuses("a pattern was made, type 16", Twins.ARGUMENT, mill -> mill.type(16, 1));
        mills.refuses("a pattern was made, constructor 2", Twins.ARGUMENT, mill -> mill.argument(0, 2, 0));
        mills.refuses("a pattern was made, of type 16", Twins.ARGUMENT, mill -> mill.argument(0, 0, 16));
        mills.refuses("a full pile, any of an untold type", Twins.ARGUMENT, mill -> mill.any(3));
        mills.refuses("a full pile, not of numbers", Twins.ARGUMENT, mill -> mill.number(0, 1, false));
        mills.refuses("a full pile, not of numbers", Twins.ARGUMENT, mill -> mill.number(0, 1, true));
        mills.refuses("a full pile, constructor 2", Twins.ARGUMENT, mill -> mill.make(0, 2, false));
        mills.refuses("a full pile, constructor -1", Twins.ARGUMENT, mill -> mill.make(0, -1, true));
        for (int i = 0; i < 40; i++) {
            mills.pop(false);
        }
        mills.refuses("no pattern, name 8", Twins.ARGUMENT, mill -> mill.name(8));
        mills.refuses("no pattern, name -1", Twins.ARGUMENT, mill -> mill.name(-1));
        mills.refuses("no pattern, name 0", Twins.STATE, mill -> mill.name(0));
        mills.end();
    }
}
