import java.math.BigInteger;
import java.util.ArrayList;
import java.util.Collection;
import java.util.Collections;
import java.util.HashMap;
import java.util.HashSet;
import java.util.LinkedHashMap;
import java.util.List;
import java.util.Map;
import java.util.PriorityQueue;
import java.util.Set;
import java.util.TreeSet;
import java.util.regex.Matcher;
import java.util.regex.Pattern;

/** The document done again, in the plainest way and with all of the Java library, to compare answers with. */
final class SlowPlanner {
    static final class Fault extends RuntimeException {
        private static final long serialVersionUID = 1L;
        final int code;

        Fault(int number, int place) {
            super(number + " at " + place);
            code = number + 10 * place;
        }
    }

    record Token(String word, int place) { }

    /** A literal or change: a predicate, "=" or "increase", and its terms (or the number). */
    record Literal(boolean not, String head, List<String> terms) { }

    record Action(String name, LinkedHashMap<String, String> parameters, List<Literal> condition, List<Literal> effect) { }

    record Step(int action, List<String> objects, int cost, List<String> in, List<String> out, Set<String> go, Set<String> come) {
        boolean can(Set<String> state) {
            return state.containsAll(in) && Collections.disjoint(state, out);
        }

        Set<String> after(Set<String> state) {
            Set<String> next = new TreeSet<>(state);
            next.removeAll(go);
            next.addAll(come);
            return next;
        }
    }

    private List<Token> tokens;
    private int at;

    String name;
    List<String> types = new ArrayList<>();
    LinkedHashMap<String, LinkedHashMap<String, String>> predicates = new LinkedHashMap<>();
    List<Action> actions = new ArrayList<>();
    LinkedHashMap<String, String> objects = new LinkedHashMap<>();
    Set<String> init = new TreeSet<>();
    List<Literal> goal = new ArrayList<>();
    List<Step> steps = new ArrayList<>();
    int factCount;

    private void split(String text) {
        tokens = new ArrayList<>();
        Matcher m = Pattern.compile("[()]|[^ ()]+").matcher(text);
        while (m.find()) {
            tokens.add(new Token(m.group(), m.start()));
        }
        tokens.add(new Token("", text.length()));
        at = 0;
    }

    private String now() {
        return tokens.get(at).word;
    }

    private Fault fault(int number) {
        return new Fault(number, tokens.get(at).place);
    }

    private void eat(String... words) {
        for (String word : words) {
            if (!now().equals(word)) {
                throw fault(1);
            }
            at++;
        }
    }

    private String eatMatch(String form) {
        if (!now().matches(form)) {
            throw fault(1);
        }
        return tokens.get(at++).word;
    }

    private static final String NAME = "[a-z0-9]{1,6}";
    private static final String VARIABLE = "[?][a-z0-9]{1,6}";

    private String eatNew(String form, Collection<String> told) {
        if (now().matches(form) && told.contains(now())) {
            throw fault(2);
        }
        return eatMatch(form);
    }

    private String eatKnown(String form, Collection<String> told) {
        if (now().matches(form) && !told.contains(now())) {
            throw fault(3);
        }
        return eatMatch(form);
    }

    private void eatTyped(String form, LinkedHashMap<String, String> into, int most) {
        while (into.size() < most && !now().equals(")")) {
            String told = eatNew(form, into.keySet());
            into.put(told, "");
            if (now().equals("-")) {
                at++;
                into.put(told, eatKnown(NAME, types));
            }
        }
    }

    void readDomain(String text) {
        split(text);
        eat("(", "define", "(", "domain");
        name = eatMatch(NAME);
        eat(")", "(");
        if (now().equals(":types")) {
            at++;
            do {
                types.add(eatNew(NAME, types));
            } while (types.size() < 4 && !now().equals(")"));
            eat(")", "(");
        }
        eat(":predicates");
        do {
            eat("(");
            LinkedHashMap<String, String> parameters = new LinkedHashMap<>();
            predicates.put(eatNew(NAME, predicates.keySet()), parameters);
            eatTyped(VARIABLE, parameters, 2);
            eat(")");
        } while (predicates.size() < 6 && now().equals("("));
        eat(")");
        List<String> names = new ArrayList<>();
        do {
            eat("(", ":action");
            names.add(eatNew(NAME, names));
            eat(":parameters", "(");
            Action action = new Action(names.get(names.size() - 1), new LinkedHashMap<>(), new ArrayList<>(), new ArrayList<>());
            eatTyped(VARIABLE, action.parameters, 3);
            eat(")");
            if (now().equals(":precondition")) {
                at++;
                eatList(action.condition, action.parameters, VARIABLE, false);
            }
            eat(":effect");
            eatList(action.effect, action.parameters, VARIABLE, true);
            eat(")");
            actions.add(action);
        } while (actions.size() < 5 && now().equals("("));
        eat(")", "");
    }

    private void eatList(List<Literal> into, Map<String, String> terms, String form, boolean effect) {
        eat("(");
        if (!now().equals("and")) {
            into.add(eatOne(into, terms, form, effect));
            return;
        }
        at++;
        do {
            eat("(");
            into.add(eatOne(into, terms, form, effect));
        } while (into.size() < 4 && now().equals("("));
        eat(")");
    }

    private Literal eatOne(List<Literal> before, Map<String, String> terms, String form, boolean effect) {
        if (now().equals("not")) {
            at++;
            eat("(");
            Literal literal = eatPlain(true, terms, form, effect);
            eat(")");
            return literal;
        }
        if (effect && now().equals("increase")) {
            for (Literal other : before) {
                if (other.head.equals("increase")) {
                    throw fault(5);
                }
            }
            eat("increase", "(", "total-cost", ")");
            if (now().matches("0+")) {
                throw fault(1);
            }
            Literal literal = new Literal(false, "increase", List.of(eatMatch("[0-9]{1,3}")));
            eat(")");
            return literal;
        }
        return eatPlain(false, terms, form, effect);
    }

    private Literal eatPlain(boolean not, Map<String, String> terms, String form, boolean effect) {
        if (!effect && now().equals("=")) {
            at++;
            List<String> both = List.of(eatKnown(form, terms.keySet()), eatKnown(form, terms.keySet()));
            eat(")");
            return new Literal(not, "=", both);
        }
        String predicate = eatKnown(NAME, predicates.keySet());
        List<String> given = new ArrayList<>();
        for (String type : predicates.get(predicate).values()) {
            String term = eatKnown(form, terms.keySet());
            if (!type.isEmpty() && !type.equals(terms.get(term))) {
                at--;
                throw fault(4);
            }
            given.add(term);
        }
        eat(")");
        return new Literal(not, predicate, given);
    }

    void readProblem(String text) {
        split(text);
        objects.clear();
        init.clear();
        goal.clear();
        eat("(", "define", "(", "problem");
        eatMatch(NAME);
        eat(")", "(", ":domain");
        eatKnown(NAME, List.of(name));
        eat(")", "(", ":objects");
        if (now().equals(")")) {
            throw fault(1);
        }
        eatTyped(NAME, objects, 6);
        eat(")", "(", ":init");
        for (int count = 0; count < 12 && now().equals("("); count++) {
            at++;
            Literal atom = eatPlain(false, objects, NAME, true);
            init.add(fact(atom, Map.of()));
        }
        eat(")", "(", ":goal");
        eatList(goal, objects, NAME, false);
        eat(")", ")", "");
    }

    private static String fact(Literal atom, Map<String, String> bound) {
        StringBuilder all = new StringBuilder(atom.head);
        for (String term : atom.terms) {
            all.append(' ').append(bound.getOrDefault(term, term));
        }
        return all.toString();
    }

    private List<List<String>> ways(Collection<String> wanted) {
        List<List<String>> all = new ArrayList<>(List.of(List.of()));
        for (String type : wanted) {
            List<List<String>> longer = new ArrayList<>();
            for (List<String> begun : all) {
                for (Map.Entry<String, String> object : objects.entrySet()) {
                    if (type.isEmpty() || type.equals(object.getValue())) {
                        List<String> next = new ArrayList<>(begun);
                        next.add(object.getKey());
                        longer.add(next);
                    }
                }
            }
            all = longer;
        }
        return all;
    }

    void makeGround() {
        factCount = 0;
        for (LinkedHashMap<String, String> parameters : predicates.values()) {
            factCount += ways(parameters.values()).size();
        }
        steps.clear();
        for (int a = 0; a < actions.size(); a++) {
            Action action = actions.get(a);
            for (List<String> way : ways(action.parameters.values())) {
                Map<String, String> bound = new HashMap<>();
                int k = 0;
                for (String variable : action.parameters.keySet()) {
                    bound.put(variable, way.get(k++));
                }
                if (equalitiesHold(action.condition, bound)) {
                    steps.add(step(a, way, bound));
                }
            }
        }
    }

    private Step step(int a, List<String> way, Map<String, String> bound) {
        Action action = actions.get(a);
        int cost = 1;
        Set<String> go = new TreeSet<>();
        Set<String> come = new TreeSet<>();
        for (Literal change : action.effect) {
            if (change.head.equals("increase")) {
                cost = Integer.parseInt(change.terms.get(0));
            } else {
                (change.not ? go : come).add(fact(change, bound));
            }
        }
        return new Step(a, way, cost, facts(action.condition, bound, false), facts(action.condition, bound, true), go, come);
    }

    private static List<String> facts(List<Literal> condition, Map<String, String> bound, boolean not) {
        List<String> all = new ArrayList<>();
        for (Literal literal : condition) {
            if (!literal.head.equals("=") && literal.not == not) {
                all.add(fact(literal, bound));
            }
        }
        return all;
    }

    private static boolean equalitiesHold(List<Literal> condition, Map<String, String> bound) {
        for (Literal literal : condition) {
            if (literal.head.equals("=")) {
                String one = bound.getOrDefault(literal.terms.get(0), literal.terms.get(0));
                String other = bound.getOrDefault(literal.terms.get(1), literal.terms.get(1));
                if (one.equals(other) == literal.not) {
                    return false;
                }
            }
        }
        return true;
    }

    boolean goalHolds(Set<String> state) {
        return equalitiesHold(goal, Map.of()) && state.containsAll(facts(goal, Map.of(), false))
            && Collections.disjoint(state, facts(goal, Map.of(), true));
    }

    record Way(int cost, List<Integer> row, Set<String> state) implements Comparable<Way> {
        @Override
        public int compareTo(Way other) {
            if (cost != other.cost) {
                return Integer.compare(cost, other.cost);
            }
            if (row.size() != other.row.size()) {
                return Integer.compare(row.size(), other.row.size());
            }
            for (int k = 0; k < row.size(); k++) {
                if (!row.get(k).equals(other.row.get(k))) {
                    return Integer.compare(row.get(k), other.row.get(k));
                }
            }
            return 0;
        }
    }

    /** What plan(most) throws or answers, and the plan's steps. */
    String plan(int most) {
        PriorityQueue<Way> open = new PriorityQueue<>();
        Map<Set<String>, Integer> settled = new HashMap<>();
        open.add(new Way(0, List.of(), init));
        Way found = null;
        while (!open.isEmpty() && found == null) {
            Way way = open.poll();
            if (settled.putIfAbsent(way.state, way.cost) != null) {
                continue;
            }
            if (goalHolds(way.state)) {
                found = way;
            }
            // More than any limit are cheaper than this one, and so than the plan.
            if (found == null && cheaperThan(settled, way.cost) > 200) {
                return "UnsupportedOperationException";
            }
            for (int number = 0; number < steps.size(); number++) {
                Step next = steps.get(number);
                if (next.can(way.state)) {
                    List<Integer> row = new ArrayList<>(way.row);
                    row.add(number);
                    open.add(new Way(way.cost + next.cost, row, next.after(way.state)));
                }
            }
        }
        if (cheaperThan(settled, found == null ? Integer.MAX_VALUE : found.cost) > most) {
            return "UnsupportedOperationException";
        }
        return found == null ? "-1" : found.cost + " " + found.row;
    }

    private static int cheaperThan(Map<Set<String>, Integer> settled, int limit) {
        int cheaper = 0;
        for (int cost : settled.values()) {
            cheaper += cost < limit ? 1 : 0;
        }
        return cheaper;
    }

    String letters(List<Integer> row) {
        StringBuilder all = new StringBuilder();
        for (int number : row) {
            Step one = steps.get(number);
            List<String> words = new ArrayList<>(List.of(actions.get(one.action).name));
            words.addAll(one.objects);
            all.append('(').append(String.join(" ", words)).append(")\n");
        }
        return all.toString();
    }

    int check(List<Integer> row) {
        Set<String> state = init;
        int cost = 0;
        for (int k = 0; k < row.size(); k++) {
            Step next = steps.get(row.get(k));
            if (!next.can(state)) {
                return -1 - k;
            }
            state = next.after(state);
            cost += next.cost;
        }
        return goalHolds(state) ? cost : -100;
    }

    int estimate(boolean adding) {
        Map<String, BigInteger> worth = new HashMap<>();
        for (String fact : init) {
            worth.put(fact, BigInteger.ZERO);
        }
        boolean changed = true;
        while (changed) {
            changed = false;
            for (Step next : steps) {
                BigInteger needed = together(next.in, worth, adding);
                for (String fact : needed == null ? new HashSet<String>() : next.come) {
                    BigInteger all = needed.add(BigInteger.valueOf(next.cost));
                    if (!worth.containsKey(fact) || worth.get(fact).compareTo(all) > 0) {
                        worth.put(fact, all);
                        changed = true;
                    }
                }
            }
        }
        BigInteger all = together(facts(goal, Map.of(), false), worth, adding);
        return all == null ? -1 : all.min(BigInteger.valueOf(100000)).intValue();
    }

    private static BigInteger together(List<String> facts, Map<String, BigInteger> worth, boolean adding) {
        BigInteger all = BigInteger.ZERO;
        for (String fact : facts) {
            BigInteger one = worth.get(fact);
            if (one == null) {
                return null;
            }
            all = adding ? all.add(one) : all.max(one);
        }
        return all;
    }
}
