import java.util.ArrayList;
import java.util.HashMap;
import java.util.HashSet;
import java.util.List;
import java.util.Map;
import java.util.Set;
import java.util.TreeSet;

/** The document's words as plainly as they can be put, without care for room: what ModelTests holds MatchMill against. */
final class Model {
    private enum Kind { NUMBER, CONSTRUCTOR, ANY, EITHER, NAME }

    private record Term(Kind kind, int type, int what, List<Term> parts) {
        int size() {
            int sum = kind == Kind.NAME ? 0 : 1;
            for (Term part : parts) {
                sum += part.size();
            }
            return sum;
        }

        Set<Integer> names() {
            Set<Integer> names = new HashSet<>();
            for (Term part : parts) {
                names.addAll(part.names());
            }
            if (kind == Kind.NAME) {
                names.add(what);
            }
            return names;
        }

        void tell(List<Integer> told) {
            told.add(kind == Kind.NUMBER ? 0 : 1);
            told.add(what);
            for (Term part : parts) {
                part.tell(told);
            }
        }

        Term at(List<Integer> place) {
            Term at = this;
            for (int argument : place) {
                at = at.parts.get(argument);
            }
            return at;
        }
    }

    private record Wish(List<Integer> place, Term pattern) { }

    private record Row(int owner, List<Wish> wishes, Map<Integer, List<Integer>> names) {
        Term wishFor(List<Integer> place) {
            for (Wish wish : wishes) {
                if (wish.place.equals(place)) {
                    return wish.pattern;
                }
            }
            return null;
        }
    }

    private static final class Node {
        Row taken;
        Node behindGuard;
        int question;
        int rows;
        int before;
        List<Integer> place;
        boolean ofNumbers;
        List<Integer> numbers;
        List<Node> answers;
    }

    private record Case(Term pattern, boolean guarded) { }

    private static final class TooGreat extends RuntimeException {
        private static final long serialVersionUID = 1;
    }

    private final int[] constructors = new int[16];
    private final Map<Integer, List<Integer>> arguments = new HashMap<>();
    private final List<Term> patterns = new ArrayList<>();
    private final List<Term> values = new ArrayList<>();
    private final List<Case> cases = new ArrayList<>();
    private boolean made;
    private Node tree;
    private final List<Node> questions = new ArrayList<>();
    private final Set<Integer> used = new HashSet<>();
    private int rowsOfQuestions;
    private int takes;
    private int fails;
    private int longest;
    private List<Integer> missing = List.of();
    private List<Integer> asked = List.of();
    private Map<Integer, List<Integer>> bound = Map.of();

    Model() {
        clear();
    }

    void clear() {
        java.util.Arrays.fill(constructors, -1);
        arguments.clear();
        patterns.clear();
        values.clear();
        cases.clear();
        made = false;
        tree = null;
        asked = List.of();
        bound = Map.of();
    }

    private static void argue(boolean fits) {
        if (!fits) {
            throw new IllegalArgumentException();
        }
    }

    private static void state(boolean fits) {
        if (!fits) {
            throw new IllegalStateException();
        }
    }

    private static boolean within(int x, int count) {
        return 0 <= x && x < count;
    }

    private List<Integer> argumentsOf(int type, int constructor) {
        return arguments.computeIfAbsent(type * 8 + constructor, key -> new ArrayList<>());
    }

    void type(int type, int count) {
        argue(within(type, 16) && within(count, 9));
        state(!made && constructors[type] == -1);
        constructors[type] = count;
    }

    int argument(int type, int constructor, int of) {
        argue(within(type, 16) && within(of, 16) && within(constructor, constructors[type]));
        List<Integer> list = argumentsOf(type, constructor);
        state(!made && list.size() < 4);
        list.add(of);
        return list.size();
    }

    private int put(List<Term> pile, Term term) {
        pile.add(term);
        made = true;
        return pile.size();
    }

    int any(int type) {
        argue(within(type, 16) && constructors[type] != -1);
        state(patterns.size() < 40);
        return put(patterns, new Term(Kind.ANY, type, 0, List.of()));
    }

    int number(int type, int number, boolean value) {
        argue(within(type, 16) && constructors[type] == 0);
        List<Term> pile = value ? values : patterns;
        state(pile.size() < 40);
        return put(pile, new Term(Kind.NUMBER, type, number, List.of()));
    }

    int make(int type, int constructor, boolean value) {
        argue(within(type, 16) && within(constructor, constructors[type]));
        List<Term> pile = value ? values : patterns;
        List<Integer> list = argumentsOf(type, constructor);
        int below = pile.size() - list.size();
        state(below >= 0 && below < 40);
        List<Term> parts = new ArrayList<>(pile.subList(below, pile.size()));
        int names = 0;
        for (int i = 0; i < parts.size(); i++) {
            state(parts.get(i).type == list.get(i));
            names += parts.get(i).names().size();
        }
        Term term = new Term(Kind.CONSTRUCTOR, type, constructor, parts);
        state(term.names().size() == names && term.size() <= (value ? 60 : 24));
        pile.subList(below, pile.size()).clear();
        return put(pile, term);
    }

    int either() {
        int below = patterns.size() - 2;
        state(below >= 0);
        Term first = patterns.get(below);
        Term second = patterns.get(below + 1);
        state(first.type == second.type && first.names().equals(second.names()));
        Term term = new Term(Kind.EITHER, first.type, 0, List.of(first, second));
        state(term.size() <= 24);
        patterns.subList(below, below + 2).clear();
        return put(patterns, term);
    }

    int name(int name) {
        argue(within(name, 8));
        int top = patterns.size() - 1;
        state(top >= 0 && !patterns.get(top).names().contains(name));
        Term named = patterns.get(top);
        patterns.set(top, new Term(Kind.NAME, named.type, name, List.of(named)));
        return patterns.get(top).names().size();
    }

    int pop(boolean value) {
        List<Term> pile = value ? values : patterns;
        return pile.isEmpty() ? 0 : pile.remove(pile.size() - 1).size();
    }

    int addCase(boolean guarded) {
        int top = patterns.size() - 1;
        state(top >= 0 && cases.size() < 20);
        state(cases.isEmpty() || cases.get(0).pattern.type == patterns.get(top).type);
        cases.add(new Case(patterns.remove(top), guarded));
        tree = null;
        return cases.size() - 1;
    }

    int build() {
        state(!cases.isEmpty());
        tree = null;
        questions.clear();
        used.clear();
        rowsOfQuestions = 0;
        takes = 0;
        fails = 0;
        longest = 0;
        missing = List.of();
        List<Row> rows = new ArrayList<>();
        for (int i = 0; i < cases.size(); i++) {
            rows.addAll(settled(new Row(i, List.of(new Wish(List.of(), cases.get(i).pattern)), Map.of())));
        }
        try {
            tree = treeOf(rows, 0, new HashMap<>());
        } catch (TooGreat e) {
            throw new UnsupportedOperationException();
        }
        return questions.size();
    }

    private static List<Wish> with(List<Wish> wishes, int at, List<Wish> instead) {
        List<Wish> result = new ArrayList<>(wishes.subList(0, at));
        result.addAll(instead);
        result.addAll(wishes.subList(at + 1, wishes.size()));
        return result;
    }

    private static List<Row> settled(Row row) {
        for (int i = 0; i < row.wishes.size(); i++) {
            Wish wish = row.wishes.get(i);
            Term pattern = wish.pattern;
            if (pattern.kind == Kind.ANY) {
                return settled(new Row(row.owner, with(row.wishes, i, List.of()), row.names));
            }
            if (pattern.kind == Kind.NAME) {
                Map<Integer, List<Integer>> names = new HashMap<>(row.names);
                names.put(pattern.what, wish.place);
                Wish inner = new Wish(wish.place, pattern.parts.get(0));
                return settled(new Row(row.owner, with(row.wishes, i, List.of(inner)), names));
            }
        }
        for (int i = 0; i < row.wishes.size(); i++) {
            Wish wish = row.wishes.get(i);
            if (wish.pattern.kind == Kind.EITHER) {
                List<Row> rows = new ArrayList<>();
                for (Term part : wish.pattern.parts) {
                    Wish chosen = new Wish(wish.place, part);
                    rows.addAll(settled(new Row(row.owner, with(row.wishes, i, List.of(chosen)), row.names)));
                }
                return rows;
            }
        }
        return List.of(row);
    }

    private Node treeOf(List<Row> rows, int before, Map<List<Integer>, int[]> answered) {
        if (rows.size() > 80) {
            throw new TooGreat();
        }
        Node node = new Node();
        if (rows.isEmpty()) {
            if (fails == 0) {
                missing = new ArrayList<>();
                tellAnswered(List.of(), answered, missing);
            }
            fails++;
            return node;
        }
        Row first = rows.get(0);
        if (first.wishes.isEmpty()) {
            takes++;
            used.add(first.owner);
            node.taken = first;
            if (cases.get(first.owner).guarded) {
                List<Row> others = new ArrayList<>(rows);
                others.removeIf(row -> row.owner == first.owner);
                node.behindGuard = treeOf(others, before, answered);
            }
            return node;
        }
        rowsOfQuestions += rows.size();
        node.question = questions.size();
        questions.add(node);
        if (questions.size() > 1000 || rowsOfQuestions > 800) {
            throw new TooGreat();
        }
        node.rows = rows.size();
        node.before = before;
        longest = Math.max(longest, before + 1);
        node.place = first.wishes.get(0).place;
        ask(node, rows, first.wishes.get(0).pattern.type, answered);
        return node;
    }

    private void ask(Node node, List<Row> rows, int type, Map<List<Integer>, int[]> answered) {
        node.ofNumbers = constructors[type] == 0;
        Set<Integer> meanings = new TreeSet<>();
        for (Row row : rows) {
            if (node.ofNumbers && row.wishFor(node.place) != null) {
                meanings.add(row.wishFor(node.place).what);
            }
        }
        for (int i = 0; i < constructors[type]; i++) {
            meanings.add(i);
        }
        node.numbers = new ArrayList<>(meanings);
        node.answers = new ArrayList<>();
        for (int what : node.numbers) {
            answered.put(node.place, new int[] {node.ofNumbers ? 0 : 1, what, type});
            node.answers.add(treeOf(behind(rows, node.place, what, false), node.before + 1, answered));
        }
        if (node.ofNumbers) {
            int other = 0;
            while (meanings.contains(other)) {
                other++;
            }
            answered.put(node.place, new int[] {0, other, type});
            node.answers.add(treeOf(behind(rows, node.place, 0, true), node.before + 1, answered));
        }
        answered.remove(node.place);
    }

    private static List<Row> behind(List<Row> rows, List<Integer> place, int what, boolean other) {
        List<Row> result = new ArrayList<>();
        for (Row row : rows) {
            Term wished = row.wishFor(place);
            if (wished == null) {
                result.add(row);
            } else if (!other && wished.what == what) {
                List<Wish> inside = new ArrayList<>();
                for (int i = 0; i < wished.parts.size(); i++) {
                    inside.add(new Wish(part(place, i), wished.parts.get(i)));
                }
                int at = row.wishes.indexOf(new Wish(place, wished));
                result.addAll(settled(new Row(row.owner, with(row.wishes, at, inside), row.names)));
            }
        }
        return result;
    }

    private static List<Integer> part(List<Integer> place, int argument) {
        List<Integer> part = new ArrayList<>(place);
        part.add(argument);
        return part;
    }

    private void tellAnswered(List<Integer> place, Map<List<Integer>, int[]> answered, List<Integer> told) {
        int[] answer = answered.get(place);
        told.add(answer == null ? 2 : answer[0]);
        told.add(answer == null ? 0 : answer[1]);
        if (answer != null && answer[0] == 1) {
            for (int i = 0; i < argumentsOf(answer[2], answer[1]).size(); i++) {
                tellAnswered(part(place, i), answered, told);
            }
        }
    }

    int match(int guards) {
        state(!values.isEmpty() && tree != null);
        Term value = values.get(values.size() - 1);
        state(value.type == cases.get(0).pattern.type);
        values.remove(values.size() - 1);
        asked = new ArrayList<>();
        bound = new HashMap<>();
        Node at = tree;
        while (true) {
            if (at.place != null) {
                asked.add(at.question);
                int what = value.at(at.place).what;
                int answer = at.numbers.indexOf(what);
                at = at.answers.get(answer >= 0 ? answer : at.numbers.size());
            } else if (at.taken == null) {
                return -1;
            } else if (at.behindGuard == null || (guards & 1 << at.taken.owner) != 0) {
                for (Map.Entry<Integer, List<Integer>> name : at.taken.names.entrySet()) {
                    List<Integer> told = new ArrayList<>();
                    value.at(name.getValue()).tell(told);
                    bound.put(name.getKey(), told);
                }
                return at.taken.owner;
            } else {
                at = at.behindGuard;
            }
        }
    }

    private static int at(List<Integer> list, int i) {
        return list != null && within(i, list.size()) ? list.get(i) : -1;
    }

    int asked(int i) {
        return at(asked, i);
    }

    int bound(int name) {
        argue(within(name, 8));
        return bound.containsKey(name) ? bound.get(name).size() : 0;
    }

    int boundAt(int name, int i) {
        argue(within(name, 8));
        return at(bound.get(name), i);
    }

    int missing(int i) {
        return tree == null ? -1 : at(missing, i);
    }

    int lengthOfMissing() {
        return tree == null ? 0 : missing.size();
    }

    int lengthOfAsked() {
        return asked.size();
    }

    int lengthOfBound(int name) {
        return bound.containsKey(name) ? bound.get(name).size() : 0;
    }

    int unused(int i) {
        List<Integer> never = new ArrayList<>();
        for (int k = 0; k < cases.size(); k++) {
            if (!used.contains(k)) {
                never.add(k);
            }
        }
        return tree == null ? -1 : at(never, i);
    }

    int question(int question, int what) {
        argue(tree != null && within(question, questions.size()) && within(what, 4));
        Node node = questions.get(question);
        return new int[] {node.rows, node.answers.size(), node.before, node.place.size()}[what];
    }

    int about(int what) {
        argue(within(what, 7));
        int[] facts = {cases.size(), patterns.size(), values.size(), questions.size(), takes, fails, longest};
        return what > 2 && tree == null ? 0 : facts[what];
    }
}
