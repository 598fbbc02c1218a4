import java.util.ArrayList;
import java.util.Arrays;

/**
 * Cases of patterns made into trees of questions, after the ways of a public language with variants: types with
 * constructors, patterns with parts, names, either-ors and guards; which case takes a value, by which questions,
 * what none takes, and which is never taken.
 */
public final class MatchMill {
    public static final int NONE = -1;

    private static final int ALL_TYPES = 16;
    private static final int ALL_NAMES = 8;
    private static final int MOST_CONSTRUCTORS = 8;
    private static final int MOST_ARGUMENTS = 4;
    private static final int MOST_PATTERN_SIZE = 24;
    private static final int MOST_VALUE_SIZE = 60;
    private static final int MOST_ON_PILE = 40;
    private static final int MOST_CASES = 20;
    private static final int MOST_QUESTIONS = 1000;
    private static final int MOST_ROWS_OF_TREE = 80;
    private static final int MOST_ROWS_OF_QUESTIONS = 800;
    // Each question has a row at least, so there are no more questions than their rows, and each gives four places.
    private static final int MOST_PLACES = 1 + MOST_ARGUMENTS * MOST_ROWS_OF_QUESTIONS;
    // Far above all answers that so many questions can have.
    private static final int MOST_STEPS = 1000000;

    // The first three are as the document tells them of values.
    private static final int NUMBER = 0;
    private static final int CONSTRUCTOR = 1;
    private static final int ANY = 2;
    private static final int EITHER = 3;

    private final Types types;
    private final Pile patterns;
    private final Pile values;
    private final Cases cases;
    private final Tree tree;
    private final Passage latest;
    private boolean anyMade;
    private boolean built;
    private boolean tooGreat;

    public MatchMill() {
        Types told = new Types();
        Cases added = new Cases();
        types = told;
        cases = added;
        patterns = new Pile();
        values = new Pile();
        tree = new Tree(told, added);
        latest = new Passage();
    }

    public void type(int type, int constructors) throws IllegalArgumentException, IllegalStateException {
        if (!types.canBe(type) || constructors < 0 || constructors > MOST_CONSTRUCTORS) {
            throw new IllegalArgumentException();
        }
        if (anyMade || types.isTold(type)) {
            throw new IllegalStateException();
        }
        types.tell(type, constructors);
    }

    public int argument(int type, int constructor, int of) throws IllegalArgumentException, IllegalStateException {
        if (!types.hasConstructor(type, constructor) || !types.canBe(of)) {
            throw new IllegalArgumentException();
        }
        if (anyMade || types.arity(type, constructor) >= MOST_ARGUMENTS) {
            throw new IllegalStateException();
        }
        return types.addArgument(type, constructor, of);
    }

    public int any(int type) throws IllegalArgumentException, IllegalStateException {
        if (!types.isTold(type)) {
            throw new IllegalArgumentException();
        }
        return put(patterns, new Term(type, ANY, 0, new Term[0]));
    }

    public int number(int type, int number, boolean value) throws IllegalArgumentException, IllegalStateException {
        if (!types.isOfNumbers(type)) {
            throw new IllegalArgumentException();
        }
        return put(pileOf(value), new Term(type, NUMBER, number, new Term[0]));
    }

    public int make(int type, int constructor, boolean value) throws IllegalArgumentException, IllegalStateException {
        if (!types.hasConstructor(type, constructor)) {
            throw new IllegalArgumentException();
        }
        Pile pile = pileOf(value);
        int mostSize = value ? MOST_VALUE_SIZE : MOST_PATTERN_SIZE;
        int arity = types.arity(type, constructor);
        if (!types.areArguments(type, constructor, pile) || pile.shareNames(arity)
                || pile.sizeOf(arity) + 1 > mostSize) {
            throw new IllegalStateException();
        }
        return put(pile, new Term(type, CONSTRUCTOR, constructor, pile.take(arity)));
    }

    public int either() throws IllegalStateException {
        if (patterns.height() < 2 || !patterns.areAlike(2) || patterns.sizeOf(2) + 1 > MOST_PATTERN_SIZE) {
            throw new IllegalStateException();
        }
        int type = patterns.typeAt(0);
        return put(patterns, new Term(type, EITHER, 0, patterns.take(2)));
    }

    public int name(int name) throws IllegalArgumentException, IllegalStateException {
        if (!isName(name)) {
            throw new IllegalArgumentException();
        }
        Term pattern = patterns.fromTop(0);
        if (pattern == null || pattern.hasName(name)) {
            throw new IllegalStateException();
        }
        return pattern.addName(name);
    }

    public int pop(boolean value) {
        Pile pile = pileOf(value);
        Term gone = pile.fromTop(0);
        if (gone == null) {
            return 0;
        }
        pile.drop(1);
        return gone.size;
    }

    public int addCase(boolean guarded) throws IllegalStateException {
        Term pattern = patterns.fromTop(0);
        if (pattern == null || !cases.accepts(pattern)) {
            throw new IllegalStateException();
        }
        patterns.drop(1);
        forgetTree();
        return cases.add(pattern, guarded);
    }

    public int build() throws IllegalStateException, UnsupportedOperationException {
        if (cases.size() == 0) {
            throw new IllegalStateException();
        }
        // The same cases always have the same tree, so it is tried once for them.
        if (!built && !tooGreat) {
            built = tree.grow();
            tooGreat = !built;
        }
        if (tooGreat) {
            throw new UnsupportedOperationException();
        }
        return tree.size();
    }

    public int match(int guards) throws IllegalStateException {
        Term value = values.fromTop(0);
        if (value == null || !built || !cases.areOf(value.type)) {
            throw new IllegalStateException();
        }
        values.drop(1);
        return tree.lead(value, guards, latest);
    }

    public int asked(int i) {
        return latest.questionAt(i);
    }

    public int bound(int name) throws IllegalArgumentException {
        if (!isName(name)) {
            throw new IllegalArgumentException();
        }
        return latest.lengthOf(name);
    }

    public int boundAt(int name, int i) throws IllegalArgumentException {
        if (!isName(name)) {
            throw new IllegalArgumentException();
        }
        return latest.toldOf(name, i);
    }

    public int missing(int i) {
        return built ? tree.missingAt(i) : NONE;
    }

    public int unused(int i) {
        return built ? tree.unusedAt(i) : NONE;
    }

    public int question(int question, int what) throws IllegalArgumentException {
        if (!built || question < 0 || question >= tree.size() || what < 0 || what > 3) {
            throw new IllegalArgumentException();
        }
        return tree.factOf(question, what);
    }

    public int about(int what) throws IllegalArgumentException {
        if (what < 0 || what > 6) {
            throw new IllegalArgumentException();
        }
        switch (what) {
            case 0:
                return cases.size();
            case 1:
                return patterns.height();
            case 2:
                return values.height();
            default:
                return built ? tree.total(what) : 0;
        }
    }

    public void clear() {
        types.forget();
        patterns.drop(patterns.height());
        values.drop(values.height());
        cases.forget();
        latest.forget();
        anyMade = false;
        forgetTree();
    }

    private void forgetTree() {
        built = false;
        tooGreat = false;
    }

    private static boolean isName(int name) {
        return name >= 0 && name < ALL_NAMES;
    }

    private Pile pileOf(boolean value) {
        return value ? values : patterns;
    }

    private int put(Pile pile, Term term) {
        if (pile.isFull()) {
            throw new IllegalStateException();
        }
        anyMade = true;
        return pile.lay(term);
    }

    /** What has been told of the types. */
    private static final class Types {
        private static final int UNTOLD = -1;

        private final int[] constructors = new int[ALL_TYPES];
        private final int[] arities = new int[ALL_TYPES * MOST_CONSTRUCTORS];
        private final int[] arguments = new int[ALL_TYPES * MOST_CONSTRUCTORS * MOST_ARGUMENTS];

        Types() {
            Arrays.fill(constructors, UNTOLD);
        }

        void forget() {
            Arrays.fill(constructors, UNTOLD);
            Arrays.fill(arities, 0);
        }

        boolean canBe(int type) {
            return type >= 0 && type < ALL_TYPES;
        }

        boolean isTold(int type) {
            return canBe(type) && constructors[type] != UNTOLD;
        }

        boolean isOfNumbers(int type) {
            return canBe(type) && constructors[type] == 0;
        }

        boolean hasConstructor(int type, int constructor) {
            return isTold(type) && constructor >= 0 && constructor < constructors[type];
        }

        void tell(int type, int count) {
            constructors[type] = count;
        }

        int constructorsOf(int type) {
            return isTold(type) ? constructors[type] : 0;
        }

        int arity(int type, int constructor) {
            return hasConstructor(type, constructor) ? arities[type * MOST_CONSTRUCTORS + constructor] : 0;
        }

        int addArgument(int type, int constructor, int of) {
            int at = type * MOST_CONSTRUCTORS + constructor;
            arguments[at * MOST_ARGUMENTS + arities[at]] = of;
            arities[at]++;
            return arities[at];
        }

        /** Whether the top of the pile is of the types that the constructor's arguments have. */
        boolean areArguments(int type, int constructor, Pile pile) {
            int arity = arity(type, constructor);
            if (pile.height() < arity) {
                return false;
            }
            int first = (type * MOST_CONSTRUCTORS + constructor) * MOST_ARGUMENTS;
            for (int i = 0; i < arity; i++) {
                if (pile.typeAt(arity - 1 - i) != arguments[first + i]) {
                    return false;
                }
            }
            return true;
        }
    }

    /** A pattern or a value. */
    private static final class Term {
        final int type;
        final int kind;
        final int what;
        final Term[] parts;
        final int size;
        // Several names of one pattern have the same place, so their order does not matter.
        int ownNames;
        int names;

        Term(int type, int kind, int what, Term[] parts) {
            this.type = type;
            this.kind = kind;
            this.what = what;
            this.parts = parts;
            int sum = 1;
            for (int i = 0; i < parts.length; i++) {
                sum += parts[i].size;
                names |= parts[i].names;
            }
            size = sum;
        }

        boolean hasName(int name) {
            return (names >> name & 1) == 1;
        }

        int addName(int name) {
            ownNames |= 1 << name;
            names |= 1 << name;
            return Integer.bitCount(names);
        }

        /** The part at that index, in the order in which parts are told; itself at 0. */
        Term partAt(int index) {
            Term at = this;
            int left = index;
            for (int depth = 0; depth < MOST_VALUE_SIZE && left > 0 && at.parts.length > 0; depth++) {
                left--;
                int part = 0;
                while (part < at.parts.length - 1 && left >= at.parts[part].size) {
                    left -= at.parts[part].size;
                    part++;
                }
                at = at.parts[part];
            }
            return at;
        }
    }

    /** A pile of patterns, or of values. */
    private static final class Pile {
        private final Term[] terms = new Term[MOST_ON_PILE];
        private int height;

        int height() {
            return height;
        }

        boolean isFull() {
            return height >= MOST_ON_PILE;
        }

        /** The one that so many lie upon; null if there is none. */
        Term fromTop(int above) {
            return above >= 0 && above < height ? terms[height - 1 - above] : null;
        }

        int typeAt(int above) {
            Term term = fromTop(above);
            return term == null ? NONE : term.type;
        }

        int lay(Term term) {
            if (height < MOST_ON_PILE) {
                terms[height] = term;
                height++;
            }
            return height;
        }

        void drop(int count) {
            height = Math.max(0, height - count);
        }

        /** Takes the topmost ones away, the lowest of them first. */
        Term[] take(int count) {
            int taken = Math.min(count, height);
            Term[] top = new Term[taken];
            for (int i = 0; i < taken; i++) {
                top[i] = terms[height - taken + i];
            }
            height -= taken;
            return top;
        }

        int sizeOf(int count) {
            int sum = 0;
            for (int i = Math.max(0, height - count); i < height; i++) {
                sum += terms[i].size;
            }
            return sum;
        }

        /** Whether a name stands in two of the topmost ones. */
        boolean shareNames(int count) {
            int seen = 0;
            for (int i = Math.max(0, height - count); i < height; i++) {
                if ((seen & terms[i].names) != 0) {
                    return true;
                }
                seen |= terms[i].names;
            }
            return false;
        }

        /** Whether the topmost ones have the same type and the same names. */
        boolean areAlike(int count) {
            for (int i = Math.max(0, height - count) + 1; i < height; i++) {
                if (terms[i].type != terms[i - 1].type || terms[i].names != terms[i - 1].names) {
                    return false;
                }
            }
            return true;
        }
    }

    private static final class Cases {
        private final Term[] patterns = new Term[MOST_CASES];
        private final boolean[] guarded = new boolean[MOST_CASES];
        private int count;

        int size() {
            return count;
        }

        void forget() {
            count = 0;
        }

        boolean areOf(int type) {
            return count > 0 && patterns[0].type == type;
        }

        boolean accepts(Term pattern) {
            return count == 0 || count < MOST_CASES && areOf(pattern.type);
        }

        int add(Term pattern, boolean withGuard) {
            patterns[count] = pattern;
            guarded[count] = withGuard;
            count++;
            return count - 1;
        }

        Term patternOf(int at) {
            return patterns[at];
        }

        boolean isGuarded(int at) {
            return guarded[at];
        }
    }

    /** Of a case: what is still wished of which place, and the places that its names have. */
    private static final class Row {
        // Wishes are parts of one pattern that lie in none of one another, so they are no more than its size.
        final int[] places = new int[MOST_PATTERN_SIZE];
        final Term[] wished = new Term[MOST_PATTERN_SIZE];
        final int[] placeOfName = new int[ALL_NAMES];
        int owner;
        private int wishes;

        void begin(int newOwner, Term pattern) {
            owner = newOwner;
            Arrays.fill(placeOfName, NONE);
            places[0] = 0;
            wished[0] = pattern;
            wishes = 1;
        }

        void become(Row other) {
            owner = other.owner;
            wishes = other.wishes;
            for (int i = 0; i < wishes; i++) {
                places[i] = other.places[i];
                wished[i] = other.wished[i];
            }
            for (int name = 0; name < ALL_NAMES; name++) {
                placeOfName[name] = other.placeOfName[name];
            }
        }

        boolean hasWishes() {
            return wishes > 0;
        }

        int wishFor(int place) {
            for (int i = 0; i < wishes; i++) {
                if (places[i] == place) {
                    return i;
                }
            }
            return NONE;
        }

        /** Binds names and leaves out wishes for any; the first wish that is an either, NONE without one. */
        int tidy() {
            int i = 0;
            // Each step passes a wish or leaves one out.
            for (int step = 0; step < MOST_PATTERN_SIZE && i < wishes; step++) {
                Term term = wished[i];
                if (term.ownNames != 0) {
                    bindNames(term.ownNames, places[i]);
                }
                if (term.kind == EITHER) {
                    return i;
                }
                if (term.kind == ANY) {
                    moveWishes(i + 1, -1);
                } else {
                    i++;
                }
            }
            return NONE;
        }

        private void bindNames(int names, int place) {
            for (int name = 0; name < ALL_NAMES; name++) {
                if ((names >> name & 1) == 1) {
                    placeOfName[name] = place;
                }
            }
        }

        /** One of both patterns comes in the place of a wish for an either. */
        void choose(int wish, int which) {
            wished[wish] = wished[wish].parts[which];
        }

        /** The patterns of the arguments come in the place of a wish for a constructor. */
        void open(int wish, int firstPlace) {
            Term[] parts = wished[wish].parts;
            if (wishes + parts.length - 1 > MOST_PATTERN_SIZE) {
                return;
            }
            moveWishes(wish + 1, parts.length - 1);
            for (int i = 0; i < parts.length; i++) {
                places[wish + i] = firstPlace + i;
                wished[wish + i] = parts[i];
            }
        }

        private void moveWishes(int from, int by) {
            if (by > 0) {
                for (int i = wishes - 1; i >= from; i--) {
                    places[i + by] = places[i];
                    wished[i + by] = wished[i];
                }
            } else if (by < 0) {
                for (int i = from; i < wishes; i++) {
                    places[i + by] = places[i];
                    wished[i + by] = wished[i];
                }
            }
            wishes += by;
        }
    }

    /**
     * The rows of trees, one tree's behind another's. Rows beyond the count are spare ones, used again for every tree
     * that is built and every value that is led through one.
     */
    private static final class Rows {
        private final ArrayList<Row> rows = new ArrayList<>();
        private int count;

        int size() {
            return count;
        }

        void cutTo(int size) {
            count = Math.min(count, size);
        }

        Row rowAt(int at) {
            return rows.get(at);
        }

        /** The tree of the cases comes at the end; false if it has too many rows. */
        boolean putCases(Cases cases) {
            int from = count;
            for (int owner = 0; owner < cases.size(); owner++) {
                int at = count;
                Row row = insert(from, at);
                if (row == null) {
                    return false;
                }
                row.begin(owner, cases.patternOf(owner));
                if (!part(from, at)) {
                    return false;
                }
            }
            return true;
        }

        /** The tree behind an answer comes at the end; false if it has too many rows. */
        boolean putAnswer(Question question, int what) {
            int from = count;
            int end = question.firstRow + question.rows;
            for (int i = question.firstRow; i < end; i++) {
                Row row = rows.get(i);
                int wish = row.wishFor(question.place);
                if (wish != NONE && row.wished[wish].what != what) {
                    continue;
                }
                int at = count;
                Row behind = insert(from, at);
                if (behind == null) {
                    return false;
                }
                behind.become(row);
                if (wish != NONE) {
                    behind.open(wish, question.places);
                    if (!part(from, at)) {
                        return false;
                    }
                }
            }
            return true;
        }

        /** Parts the rows from there on while they have eithers; false if the tree has too many rows. */
        private boolean part(int from, int at) {
            for (int i = at; i < count && i < from + MOST_ROWS_OF_TREE; i++) {
                Row row = rows.get(i);
                int either = row.tidy();
                for (int parted = 0; parted < MOST_ROWS_OF_TREE && either != NONE; parted++) {
                    // Right behind it, and so before what was parted from it earlier.
                    Row second = insert(from, i + 1);
                    if (second == null) {
                        return false;
                    }
                    second.become(row);
                    row.choose(either, 0);
                    second.choose(either, 1);
                    either = row.tidy();
                }
            }
            return true;
        }

        /** A spare row comes there; null if the tree has all rows that it may have. */
        private Row insert(int from, int at) {
            if (count - from >= MOST_ROWS_OF_TREE) {
                return null;
            }
            if (count == rows.size()) {
                rows.add(new Row());
            }
            if (at < count) {
                rows.add(at, rows.remove(count));
            }
            count++;
            return rows.get(at);
        }

        /** All rows of a case go from the tree at the end. */
        void leaveOut(int from, int owner) {
            int kept = from;
            for (int i = from; i < count; i++) {
                Row row = rows.get(i);
                if (row.owner != owner) {
                    rows.set(i, rows.get(kept));
                    rows.set(kept, row);
                    kept++;
                }
            }
            count = kept;
        }
    }

    /** A place on the way, with what was answered there. */
    private static final class Place {
        int distance;
        int kind;
        int what;
        int firstPart;
        int parts;

        void begin(int newDistance) {
            distance = newDistance;
            leave();
        }

        void answer(int newKind, int newWhat, int newFirstPart, int newParts) {
            kind = newKind;
            what = newWhat;
            firstPart = newFirstPart;
            parts = newParts;
        }

        void leave() {
            kind = ANY;
            what = 0;
            parts = 0;
        }
    }

    /** The places on the way: 0 is the whole value, and each answer adds those of the arguments. */
    private static final class Places {
        private final ArrayList<Place> places = new ArrayList<>();
        private int count;

        void begin() {
            count = 0;
            add(0);
        }

        int size() {
            return count;
        }

        int distanceOf(int at) {
            return places.get(at).distance;
        }

        /** The arguments get the places from the question's on, where those of the answer before were. */
        void answer(Question question, int what, int arity) {
            Place place = places.get(question.place);
            place.answer(question.ofNumbers ? NUMBER : CONSTRUCTOR, what, question.places, arity);
            count = question.places;
            for (int i = 0; i < arity; i++) {
                add(place.distance + 1);
            }
        }

        void leave(int at) {
            places.get(at).leave();
        }

        private void add(int distance) {
            if (count == places.size()) {
                places.add(new Place());
            }
            places.get(count).begin(distance);
            count++;
        }

        /** Writes what is told of the whole value; how many numbers that are. */
        int tellAll(int[] told) {
            return tell(0, 0, told, 0);
        }

        private int tell(int at, int depth, int[] told, int start) {
            // An argument of what a pattern wishes lies no deeper than the pattern is great.
            if (depth > MOST_PATTERN_SIZE || start + 2 > told.length) {
                return start;
            }
            Place place = places.get(at);
            told[start] = place.kind;
            told[start + 1] = place.what;
            int end = start + 2;
            for (int i = 0; i < place.parts; i++) {
                end = tell(place.firstPart + i, depth + 1, told, end);
            }
            return end;
        }
    }

    private static final class Question {
        int firstRow;
        int rows;
        int place;
        int distance;
        // How many places there are on the way before an answer.
        int places;
        boolean ofNumbers;
        int firstNumber;
        int answers;
        int before;
        // The question and the answer that this one is behind.
        int up;
        int via;
        int followed;
    }

    /** The tree of the cases. Its leaves are not kept: they are made again from the rows of the question before. */
    private static final class Tree {
        private final Types types;
        private final Cases cases;
        private final Rows rows = new Rows();
        private final Places places = new Places();
        private final ArrayList<Question> questions = new ArrayList<>();
        private final int[] numbers = new int[MOST_ROWS_OF_QUESTIONS];
        private final int[] missing = new int[2 * MOST_PLACES];
        private int count;
        private int numbersKept;
        private int missingLength;
        private int takenCases;
        private int takes;
        private int fails;
        private int longest;

        Tree(Types types, Cases cases) {
            this.types = types;
            this.cases = cases;
        }

        int size() {
            return count;
        }

        /** Builds the tree; false if it would be too great. */
        boolean grow() {
            begin();
            if (!rows.putCases(cases) || !plant(NONE, 0, 0)) {
                return false;
            }
            int at = count > 0 ? 0 : NONE;
            for (int step = 0; step < MOST_STEPS && at != NONE; step++) {
                Question question = questions.get(at);
                if (question.followed == question.answers) {
                    places.leave(question.place);
                    at = question.up;
                } else {
                    int before = count;
                    if (!follow(at, question)) {
                        return false;
                    }
                    at = count > before ? before : at;
                }
            }
            return true;
        }

        private void begin() {
            rows.cutTo(0);
            places.begin();
            count = 0;
            numbersKept = 0;
            missingLength = 0;
            takenCases = 0;
            takes = 0;
            fails = 0;
            longest = 0;
        }

        /** Plants the tree behind a question's next answer. */
        private boolean follow(int at, Question question) {
            int answer = question.followed;
            question.followed++;
            int what = meaning(question, answer);
            places.answer(question, what, arityBehind(question, answer));
            int from = rows.size();
            return rows.putAnswer(question, what) && plant(at, answer, from);
        }

        private int arityBehind(Question question, int answer) {
            Row first = rows.rowAt(question.firstRow);
            return question.ofNumbers ? 0 : types.arity(first.wished[0].type, answer);
        }

        /** Plants the tree of the rows from there on. */
        private boolean plant(int up, int via, int from) {
            for (int taken = 0; taken <= MOST_CASES && rows.size() > from; taken++) {
                Row first = rows.rowAt(from);
                if (first.hasWishes()) {
                    return ask(up, via, from);
                }
                takes++;
                takenCases |= 1 << first.owner;
                if (!cases.isGuarded(first.owner)) {
                    rows.cutTo(from);
                    return true;
                }
                rows.leaveOut(from, first.owner);
            }
            fail();
            return true;
        }

        private void fail() {
            if (fails == 0) {
                missingLength = places.tellAll(missing);
            }
            fails++;
        }

        /** The rows from there on become those of a new question. */
        private boolean ask(int up, int via, int from) {
            // The rows of all questions are kept, and no others are here now.
            if (count >= MOST_QUESTIONS || rows.size() > MOST_ROWS_OF_QUESTIONS) {
                return false;
            }
            Question question = nextQuestion();
            question.up = up;
            question.via = via;
            question.before = up == NONE ? 0 : questions.get(up).before + 1;
            question.followed = 0;
            question.firstRow = from;
            question.rows = rows.size() - from;
            Row first = rows.rowAt(from);
            question.place = first.places[0];
            question.distance = places.distanceOf(question.place);
            question.places = places.size();
            question.ofNumbers = first.wished[0].kind == NUMBER;
            question.firstNumber = numbersKept;
            if (question.ofNumbers) {
                keepNumbers(question);
                question.answers = numbersKept - question.firstNumber + 1;
            } else {
                question.answers = types.constructorsOf(first.wished[0].type);
            }
            longest = Math.max(longest, question.before + 1);
            return true;
        }

        private Question nextQuestion() {
            if (count == questions.size()) {
                questions.add(new Question());
            }
            count++;
            return questions.get(count - 1);
        }

        private void keepNumbers(Question question) {
            int end = question.firstRow + question.rows;
            for (int i = question.firstRow; i < end; i++) {
                Row row = rows.rowAt(i);
                int wish = row.wishFor(question.place);
                if (wish != NONE) {
                    keepNumber(question.firstNumber, row.wished[wish].what);
                }
            }
        }

        /** Puts a number among those that are kept from there on, which rise, if it is not one of them. */
        private void keepNumber(int from, int number) {
            int at = from;
            while (at < numbersKept && numbers[at] < number) {
                at++;
            }
            if (at < numbersKept && numbers[at] == number || numbersKept >= numbers.length) {
                return;
            }
            for (int i = numbersKept; i > at; i--) {
                numbers[i] = numbers[i - 1];
            }
            numbers[at] = number;
            numbersKept++;
        }

        /** The constructor or the number that an answer tells; for any other number one that no row wishes. */
        private int meaning(Question question, int answer) {
            if (!question.ofNumbers) {
                return answer;
            }
            if (answer < question.answers - 1) {
                return numbers[question.firstNumber + answer];
            }
            int least = 0;
            for (int i = 0; i < question.answers - 1; i++) {
                if (numbers[question.firstNumber + i] == least) {
                    least++;
                }
            }
            return least;
        }

        private int answerFor(Question question, Term met) {
            if (!question.ofNumbers) {
                return met.what;
            }
            int answer = 0;
            while (answer < question.answers - 1 && numbers[question.firstNumber + answer] != met.what) {
                answer++;
            }
            return answer;
        }

        /** The question that comes next behind an answer; NONE if there is none. */
        private int questionBehind(int up, int via) {
            for (int at = up + 1; at < count; at++) {
                Question question = questions.get(at);
                if (question.up == up && question.via == via) {
                    return at;
                }
            }
            return NONE;
        }

        /** Leads a value through the tree that is built: the case that takes it, or NONE. */
        int lead(Term value, int guards, Passage passage) {
            passage.begin(value);
            int base = rows.size();
            Row first = rows.putCases(cases) ? firstHeld(base, guards) : null;
            int at = NONE;
            int answer = 0;
            for (int step = 0; step <= count && first != null && first.hasWishes(); step++) {
                at = questionBehind(at, answer);
                rows.cutTo(base);
                if (at == NONE) {
                    return NONE;
                }
                Question question = questions.get(at);
                answer = answerFor(question, passage.meet(at, question.place));
                first = rows.putAnswer(question, meaning(question, answer)) ? firstHeld(base, guards) : null;
            }
            rows.cutTo(base);
            if (first == null) {
                return NONE;
            }
            passage.bind(first);
            return first.owner;
        }

        /** The first row from there on, without the cases that would take it but for their guards; null if none. */
        private Row firstHeld(int from, int guards) {
            for (int left = 0; left <= MOST_CASES && rows.size() > from; left++) {
                Row first = rows.rowAt(from);
                boolean holds = !cases.isGuarded(first.owner) || (guards >> first.owner & 1) == 1;
                if (first.hasWishes() || holds) {
                    return first;
                }
                rows.leaveOut(from, first.owner);
            }
            return null;
        }

        int missingAt(int i) {
            return i >= 0 && i < missingLength ? missing[i] : NONE;
        }

        int unusedAt(int i) {
            int before = 0;
            for (int at = 0; at < cases.size(); at++) {
                if ((takenCases >> at & 1) == 0) {
                    if (before == i) {
                        return at;
                    }
                    before++;
                }
            }
            return NONE;
        }

        int factOf(int at, int what) {
            Question question = questions.get(at);
            switch (what) {
                case 0:
                    return question.rows;
                case 1:
                    return question.answers;
                case 2:
                    return question.before;
                default:
                    return question.distance;
            }
        }

        int total(int what) {
            switch (what) {
                case 3:
                    return count;
                case 4:
                    return takes;
                case 5:
                    return fails;
                default:
                    return longest;
            }
        }
    }

    /** A value's way through the tree, and what names were bound to at its end. */
    private static final class Passage {
        // Each question is about another part of the value.
        private final int[] questions = new int[MOST_VALUE_SIZE];
        private final Term[] termOfName = new Term[ALL_NAMES];
        // What stands at the places of the way.
        private final ArrayList<Term> met = new ArrayList<>();
        private int length;

        void forget() {
            length = 0;
            met.clear();
            for (int name = 0; name < ALL_NAMES; name++) {
                termOfName[name] = null;
            }
        }

        void begin(Term value) {
            forget();
            met.add(value);
        }

        /** A question is asked about a place: what stands there, with places for its parts from now on. */
        Term meet(int question, int place) {
            if (length < questions.length) {
                questions[length] = question;
                length++;
            }
            Term term = met.get(place);
            for (int i = 0; i < term.parts.length; i++) {
                met.add(term.parts[i]);
            }
            return term;
        }

        void bind(Row row) {
            for (int name = 0; name < ALL_NAMES; name++) {
                int place = row.placeOfName[name];
                termOfName[name] = place >= 0 && place < met.size() ? met.get(place) : null;
            }
        }

        int questionAt(int i) {
            return i >= 0 && i < length ? questions[i] : NONE;
        }

        int lengthOf(int name) {
            Term term = termOfName[name];
            return term == null ? 0 : 2 * term.size;
        }

        int toldOf(int name, int i) {
            Term term = termOfName[name];
            if (term == null || i < 0 || i >= 2 * term.size) {
                return NONE;
            }
            Term part = term.partAt(i / 2);
            return i % 2 == 0 ? part.kind : part.what;
        }
    }
}
