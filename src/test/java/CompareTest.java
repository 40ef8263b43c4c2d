import java.util.ArrayList;
import java.util.Collections;
import java.util.LinkedHashMap;
import java.util.List;
import java.util.Map;
import java.util.Random;
import java.util.Set;
import java.util.TreeMap;
import java.util.regex.Matcher;
import java.util.regex.Pattern;

/** Promises 3 to 13 on many made-up texts, whole and broken ones, compared with SlowPlanner. */
public final class CompareTest {
    private static final int RUNS = 4000;

    private final Random random;
    private Desk desk = new Desk();
    private final SlowPlanner slow = new SlowPlanner();
    private final List<String> types = new ArrayList<>();
    /** Of each predicate its name and the types of its parameters. */
    private final List<List<String>> predicates = new ArrayList<>();
    /** Whether predicates, conditions and effects are such that plans of many steps are likely. */
    private boolean puzzle;
    private static final TreeMap<String, Integer> SEEN = new TreeMap<>();

    private CompareTest(long seed) {
        random = new Random(seed);
    }

    public static void main(String[] args) {
        int runs = args.length > 0 ? Integer.parseInt(args[0]) : RUNS;
        for (int seed = 0; seed < runs; seed++) {
            new CompareTest(seed).run(seed);
            new CompareTest(seed).runWalkers(seed);
        }
        System.out.println("seen: " + SEEN);
        Desk.end("CompareTest");
    }

    private static void saw(String what) {
        SEEN.merge(what, 1, Integer::sum);
    }

    private void run(int seed) {
        puzzle = seed % 2 == 1;
        String domain = domain();
        if (domain.length() > 600) {
            saw("domain too long");
            return;
        }
        for (int i = 0; i < 6; i++) {
            String broken = broken(domain);
            if (broken.length() <= 600) {
                int fault = faultOf(() -> new SlowPlanner().readDomain(broken));
                saw("domain fault " + fault % 10);
                Desk fresh = new Desk();
                fresh.domain(broken);
                Desk.due("fault of " + broken, fault, fresh.planner::fault);
            }
        }
        int fault = faultOf(() -> slow.readDomain(domain));
        String answer = fault == 0 ? String.valueOf(slow.actions.size()) : "IllegalArgumentException";
        for (int i = 0; i < 3; i++) {
            desk = new Desk();
            Desk.due("domain of " + domain, answer, () -> desk.domain(domain));
            Desk.due("fault of " + domain, fault, desk.planner::fault);
            if (fault == 0) {
                tryProblem(domain, problem(), "run " + seed + ": ");
            }
        }
    }

    /** Walkers on the same few ways: many plans that cost the same and differ in the order of their steps. */
    private void runWalkers(int seed) {
        List<String> walkers = random.nextBoolean() ? List.of("p", "q") : List.of("p", "q", "r");
        // So many places that there are at most 40 steps and facts.
        List<String> objects = List.of("i", "j", "k", "l", "m").subList(0, 7 - walkers.size());
        StringBuilder domain = new StringBuilder("(define (domain d)(:predicates (p ?x)(q ?x)(r ?x)(w ?x ?y))");
        StringBuilder problem = new StringBuilder("(define (problem p)(:domain d)(:objects " + String.join(" ", objects) + ")(:init ");
        StringBuilder goal = new StringBuilder();
        for (int k = 0; k < walkers.size(); k++) {
            domain.append(walker("a" + k, walkers.get(k), walkers.get((k + 1) % walkers.size())));
            problem.append("(" + walkers.get(k) + " " + objects.get(random.nextInt(2)) + ")");
            goal.append("(" + walkers.get(k) + " " + objects.get(objects.size() - 1 - random.nextInt(2)) + ")");
        }
        domain.append(")");
        for (int k = 1 + random.nextInt(12 - walkers.size()); k > 0; k--) {
            int from = random.nextInt(objects.size());
            // Most ways lead to the next place, so that plans are long.
            int to = random.nextInt(3) > 0 ? (from + 1) % objects.size() : random.nextInt(objects.size());
            problem.append("(w " + objects.get(from) + " " + objects.get(to) + ")");
        }
        problem.append(")(:goal (and " + goal + ")))");
        slow.readDomain(domain.toString());
        desk.domain(domain.toString());
        tryProblem(domain.toString(), problem.toString(), "walkers " + seed + ": ");
    }

    private String walker(String name, String where, String other) {
        return "(:action " + name + " :parameters (?x ?y) :precondition (and (" + where + " ?x)(w ?x ?y)(not (= ?x ?y))"
            + (random.nextInt(3) == 0 ? "(not (" + other + " ?y))" : "") + ") :effect (and (" + where + " ?y)(not (" + where
            + " ?x))(increase (total-cost) " + (1 + random.nextInt(2)) + ")))";
    }

    private static int faultOf(Runnable reading) {
        try {
            reading.run();
            return 0;
        } catch (SlowPlanner.Fault fault) {
            return fault.code;
        }
    }

    private void tryProblem(String domain, String problem, String run) {
        if (problem.length() > 600) {
            saw("problem too long");
            return;
        }
        for (int i = 0; i < 2; i++) {
            String broken = broken(problem);
            if (broken.length() <= 600) {
                int fault = faultOf(() -> slow.readProblem(broken));
                saw("problem fault " + fault % 10);
                desk.problem(broken);
                Desk.due("fault of " + domain + broken, fault, desk.planner::fault);
            }
        }
        int fault = faultOf(() -> slow.readProblem(problem));
        String answer = desk.problem(problem);
        Desk.due(run + "fault of " + domain + problem, fault, desk.planner::fault);
        if (fault != 0) {
            saw("problem fault unasked " + fault % 10);
            return;
        }
        slow.makeGround();
        boolean much = slow.factCount > 40 || slow.steps.size() > 40;
        saw(much ? "too much" : "problem");
        Desk.due(run + "problem of " + domain + problem, much ? "UnsupportedOperationException" : slow.steps.size(), () -> answer);
        if (!much) {
            compare(run + domain + problem + ": ");
        }
    }

    private void compare(String what) {
        compareGround(what);
        for (int states : new int[] {200, 1 + random.nextInt(30), 1 + random.nextInt(200)}) {
            String want = slow.plan(states);
            saw(want.matches("[0-9].*") ? want.endsWith("[]") ? "plan of 0" : "plan of " + (want.split(" ").length - 1) : want);
            Desk.due(what + "plan " + states, want, () -> plan(states));
            if (want.contains("[")) {
                List<Integer> row = new ArrayList<>();
                for (int k = 0; k < desk.planner.steps(); k++) {
                    row.add(desk.planner.step(k));
                }
                Desk.due(what + "letters", slow.letters(row), desk::letters);
                compareRow(what, row);
            }
        }
        Desk.due(what + "greatest", slow.estimate(false), () -> desk.planner.estimate(0));
        Desk.due(what + "sum", slow.estimate(true), () -> desk.planner.estimate(1));
        for (int i = 0; i < 3 && !slow.steps.isEmpty(); i++) {
            compareRow(what, wander(9));
        }
    }

    /** Steps of which most can be done. */
    private List<Integer> wander(int most) {
        List<Integer> row = new ArrayList<>();
        Set<String> state = slow.init;
        for (int k = random.nextInt(most); k > 0; k--) {
            int number = random.nextInt(slow.steps.size());
            for (int tries = 0; tries < 30 && !slow.steps.get(number).can(state); tries++) {
                number = random.nextInt(slow.steps.size());
            }
            row.add(number);
            state = slow.steps.get(number).after(state);
        }
        return row;
    }

    private void compareRow(String what, List<Integer> row) {
        for (int number : row) {
            Desk.due(what + "put", true, () -> desk.planner.put(number));
        }
        int want = slow.check(row);
        saw(want >= 0 ? "row is a plan" : want == -100 ? "row misses the goal" : "row can't be done");
        Desk.due(what + "check " + row, want, desk.planner::check);
    }

    private String plan(int states) {
        int cost = desk.planner.plan(states);
        if (cost < 0) {
            return String.valueOf(cost);
        }
        List<Integer> row = new ArrayList<>();
        for (int k = 0; k < desk.planner.steps(); k++) {
            row.add(desk.planner.step(k));
        }
        return cost + " " + row;
    }

    private void compareGround(String what) {
        List<String> told = new ArrayList<>(slow.objects.keySet());
        for (int number = 0; number < slow.steps.size(); number++) {
            SlowPlanner.Step step = slow.steps.get(number);
            List<Integer> want = new ArrayList<>(List.of(step.action()));
            for (int k = 0; k < 3; k++) {
                want.add(k < step.objects().size() ? told.indexOf(step.objects().get(k)) : -1);
            }
            want.add(step.cost());
            int n = number;
            Desk.due(what + "ground " + n, want, () -> {
                List<Integer> got = new ArrayList<>();
                for (int w = 0; w <= 4; w++) {
                    got.add(desk.planner.ground(n, w));
                }
                return got;
            });
        }
    }

    private String pick(List<String> from) {
        return from.get(random.nextInt(from.size()));
    }

    private String typed(String name, String type) {
        return type.isEmpty() ? name : name + " - " + type;
    }

    private String anyType() {
        return types.isEmpty() || random.nextInt(3) == 0 ? "" : pick(types);
    }

    private String domain() {
        StringBuilder all = new StringBuilder("(define (domain d)");
        int typeCount = Math.max(0, random.nextInt(7) - (puzzle ? 5 : 3));
        for (int i = 0; i < typeCount; i++) {
            types.add("t" + i);
        }
        if (typeCount > 0) {
            all.append("(:types ").append(String.join(" ", types)).append(")");
        }
        all.append("(:predicates");
        int predicateCount = 1 + random.nextInt(random.nextInt(3) == 0 ? 6 : 4);
        for (int i = 0; i < predicateCount; i++) {
            String name = random.nextInt(30) > 0 ? String.valueOf((char) ('p' + i)) : i == 0 ? "and" : i == 1 ? "not" : "n" + i;
            predicates.add(new ArrayList<>(List.of(name)));
            all.append("(").append(name);
            for (int k = puzzle ? Math.min(1, random.nextInt(4)) : random.nextInt(3); k > 0; k--) {
                String type = anyType();
                all.append(" ").append(typed("?" + (char) ('a' + k), type));
                predicates.get(i).add(type);
            }
            all.append(")");
        }
        all.append(")");
        for (int i = puzzle ? 5 : 1 + random.nextInt(4); i > 0; i--) {
            all.append(action("a" + i));
        }
        return all.append(")").toString();
    }

    private String action(String name) {
        LinkedHashMap<String, String> variables = new LinkedHashMap<>();
        StringBuilder all = new StringBuilder("(:action " + name + " :parameters (");
        int count = puzzle ? random.nextInt(3) : Math.min(random.nextInt(4), random.nextInt(4));
        for (int k = 0; k < count; k++) {
            String variable = "?" + (char) ('x' + k);
            variables.put(variable, anyType());
            all.append(k > 0 ? " " : "").append(typed(variable, variables.get(variable)));
        }
        all.append(")");
        if (random.nextInt(8) > 0) {
            String condition = list(variables, false);
            all.append(condition.isEmpty() ? "" : " :precondition " + condition);
        }
        String effect = list(variables, true);
        return all.append(" :effect ").append(effect.isEmpty() ? "(increase (total-cost) 2)" : effect).append(")").toString();
    }

    /** A condition or an effect with such terms as fit; empty if no predicate can be used. */
    private String list(Map<String, String> terms, boolean effect) {
        List<String> all = new ArrayList<>();
        int count = 1 + random.nextInt(4);
        boolean increased = false;
        for (int i = 0; i < count; i++) {
            String one = atom(terms);
            boolean not = random.nextInt(effect || puzzle ? 2 : 4) == 0;
            if (effect && !increased && random.nextInt(4) == 0) {
                increased = true;
                all.add("(increase (total-cost) " + (1 + random.nextInt(random.nextInt(3) == 0 ? 999 : 4)) + ")");
            } else if (!effect && !terms.isEmpty() && random.nextInt(5) == 0) {
                List<String> names = new ArrayList<>(terms.keySet());
                String equality = "(= " + pick(names) + " " + pick(names) + ")";
                all.add(random.nextInt(3) > 0 ? "(not " + equality + ")" : equality);
            } else if (!one.isEmpty()) {
                all.add(not ? "(not " + one + ")" : one);
            }
        }
        if (all.isEmpty()) {
            return "";
        }
        return all.size() == 1 && random.nextBoolean() ? all.get(0) : "(and " + String.join("", all) + ")";
    }

    private String atom(Map<String, String> terms) {
        List<String> predicate = predicates.get(random.nextInt(predicates.size()));
        StringBuilder all = new StringBuilder("(" + predicate.get(0));
        for (String type : predicate.subList(1, predicate.size())) {
            List<String> fitting = new ArrayList<>();
            for (Map.Entry<String, String> term : terms.entrySet()) {
                if (type.isEmpty() || type.equals(term.getValue())) {
                    fitting.add(term.getKey());
                }
            }
            if (fitting.isEmpty()) {
                return "";
            }
            all.append(" ").append(pick(fitting));
        }
        return all.append(")").toString();
    }

    private String problem() {
        Map<String, String> objects = new LinkedHashMap<>();
        StringBuilder all = new StringBuilder("(define (problem p) (:domain d) (:objects");
        for (int k = 1 + random.nextInt(random.nextInt(3) == 0 ? 6 : 4); k > 0; k--) {
            String object = String.valueOf((char) ('a' + k));
            objects.put(object, anyType());
            all.append(" ").append(typed(object, objects.get(object)));
        }
        all.append(") (:init ");
        for (int k = random.nextInt(13); k > 0; k--) {
            all.append(atom(objects));
        }
        all.append(") (:goal ");
        String goal = random.nextInt(4) > 0 ? reachedGoal(all + "(= b b)))", puzzle ? 60 : 25) : list(objects, false);
        return all.append(goal.isEmpty() ? "(= b b)" : goal).append("))").toString();
    }

    /** Facts that come, or are gone, when one goes about in the problem: a plan for them is there, and not short. */
    private String reachedGoal(String problem, int most) {
        if (faultOf(() -> slow.readProblem(problem)) != 0) {
            return "";
        }
        slow.makeGround();
        if (slow.steps.isEmpty() || slow.steps.size() > 40) {
            return "";
        }
        Set<String> state = slow.init;
        for (int number : wander(most)) {
            SlowPlanner.Step next = slow.steps.get(number);
            state = next.can(state) ? next.after(state) : state;
        }
        List<String> all = new ArrayList<>();
        for (String fact : state) {
            all.add(slow.init.contains(fact) ? "" : "(" + fact + ")");
        }
        for (String fact : slow.init) {
            all.add(state.contains(fact) ? "" : "(not (" + fact + "))");
        }
        all.removeIf(String::isEmpty);
        Collections.shuffle(all, random);
        return all.isEmpty() ? "" : "(and " + String.join("", all.subList(0, Math.min(4, all.size()))) + ")";
    }

    private static final List<String> STRAY = List.of("(", ")", "x", "?x", "-", "=", "and", "not", "(and", "increase", "t0", "t9",
        "p", "q", "(p)", "?y", "?z", "a1", "0", "7", "1000", ":effect", ":types", ":init", "toolong", "A", "?", "total-cost",
        "(increase (total-cost) 3)", "a", "b", "c", "define", "?w - t0", "b - t0", "(p ?x)", "(not (p))", "(q b)");

    /** The text with a token left out, put in, said twice or put in another's place, or cut off. */
    private String broken(String text) {
        List<String> tokens = new ArrayList<>();
        Matcher m = Pattern.compile("[()]|[^ ()]+| +").matcher(text);
        while (m.find()) {
            tokens.add(m.group());
        }
        int at = random.nextInt(tokens.size());
        int other = random.nextInt(tokens.size());
        switch (random.nextInt(12)) {
            case 0 -> tokens.remove(at);
            case 1 -> tokens.add(at, " " + pick(STRAY) + " ");
            case 2 -> tokens.set(at, " " + pick(STRAY) + " ");
            case 3 -> tokens.add(at, " " + tokens.get(at) + " ");
            case 4 -> tokens.set(at, " " + tokens.get(other) + " ");
            case 5 -> tokens.add(at, " " + tokens.get(other) + " ");
            case 6, 7 -> swapLike(tokens, at);
            case 8 -> tokens.add(Math.max(at, tokens.lastIndexOf("increase") - 1), "(increase (total-cost) 3)");
            case 9, 10 -> retype(tokens, at);
            default -> tokens.subList(at, tokens.size()).clear();
        }
        return String.join("", tokens);
    }

    /** Gives what is typed from there on, or the first that is, another type or none: its atoms may not fit any more. */
    private void retype(List<String> tokens, int from) {
        int behind = tokens.subList(from, tokens.size()).indexOf("-");
        int at = behind < 0 ? tokens.indexOf("-") : from + behind;
        if (at < 0 || at + 2 >= tokens.size()) {
            return;
        }
        if (random.nextInt(3) == 0) {
            tokens.subList(at, at + 3).clear();
        } else {
            tokens.set(at + 2, pick(types));
        }
    }

    /** Puts another word of the same look in the place of the first word from there on. */
    private void swapLike(List<String> tokens, int from) {
        for (int at = from; at < tokens.size(); at++) {
            String look = tokens.get(at).matches("[?].*") ? "[?].*" : tokens.get(at).matches("[a-z0-9]+") ? "[a-z0-9]+" : "";
            List<String> alike = new ArrayList<>(tokens);
            alike.removeIf(word -> !word.matches(look));
            if (!alike.isEmpty()) {
                tokens.set(at, pick(alike));
                return;
            }
        }
    }
}
