/** Promises 6 to 10: plan, steps, step, ground, letter. */
public final class PlanningTest {
    private static final String ISE = "IllegalStateException";
    private static final String IAE = "IllegalArgumentException";
    private static final String UOE = "UnsupportedOperationException";
    private static final String NSE = "NoSuchElementException";
    private static final String IOB = "IndexOutOfBoundsException";

    public static void main(String[] args) {
        cheapest();
        fewestSteps();
        firstInOrder();
        laterGoalsOfOneLayer();
        goThenCome();
        noPlan();
        stateLimit();
        limitBesideTheGoal();
        longPlan();
        groundSteps();
        letters();
        wrongInputs();
        Desk.end("PlanningTest");
    }

    /** An action without parameters that needs one atom, takes it and gives another. */
    private static String move(String name, String from, String to, int cost) {
        return "(:action " + name + " :parameters () :precondition (" + from + ") :effect (and (" + to + ") (not (" + from
            + ")) (increase (total-cost) " + cost + ")))";
    }

    private static Desk moves(String goal, String... actions) {
        return Desk.ready("(define (domain d) (:predicates (a) (b) (c) (e) (f) (g)) " + String.join("", actions) + ")",
            "(define (problem p) (:domain d) (:objects x) (:init (a)) (:goal " + goal + "))");
    }

    private static void duePlan(String what, Desk desk, int states, int cost, String steps) {
        Desk.due(what + ": plan", cost, () -> desk.planner.plan(states));
        Desk.due(what + ": steps", steps, desk::planSteps);
    }

    private static void cheapest() {
        Desk desk = moves("(g)", move("one", "a", "g", 9), move("two", "a", "b", 3), move("three", "b", "g", 5));
        duePlan("less cost with more steps", desk, 2, 8, " 1 2");
        Desk.due("more states than one cost less", UOE, () -> desk.planner.plan(1));
        // b is come to at cost 9 first and at cost 3 by a way round.
        Desk late = moves("(g)", move("one", "a", "b", 9), move("two", "a", "c", 1), move("three", "c", "b", 2),
            move("four", "b", "g", 1));
        duePlan("a way round", late, 200, 4, " 1 2 3");
        Desk later = moves("(g)", move("one", "a", "b", 9), move("two", "a", "c", 1), move("three", "c", "b", 2),
            move("four", "b", "g", 20));
        duePlan("fewer steps at more cost do not count", later, 200, 23, " 1 2 3");
        Desk none = moves("(a)", move("one", "a", "g", 9));
        duePlan("at once", none, 1, 0, "");
    }

    private static void fewestSteps() {
        Desk desk = moves("(g)", move("one", "a", "b", 2), move("two", "b", "g", 3), move("three", "a", "g", 5));
        duePlan("as cheap with fewer steps", desk, 200, 5, " 2");
        // Fewer steps to a state between, told later.
        Desk between = moves("(g)", move("one", "a", "b", 1), move("two", "b", "c", 1), move("three", "a", "c", 2),
            move("four", "c", "g", 1));
        duePlan("between", between, 200, 3, " 2 3");
    }

    private static void firstInOrder() {
        Desk same = moves("(g)", move("one", "b", "g", 1), move("two", "a", "b", 1), move("three", "a", "c", 1),
            move("four", "c", "g", 1));
        duePlan("first step decides, not the last", same, 200, 2, " 1 0");
        Desk costs = moves("(g)", move("one", "a", "b", 4), move("two", "a", "c", 1), move("three", "c", "g", 4),
            move("four", "b", "g", 1));
        duePlan("the first one, though it is dearer", costs, 200, 5, " 0 3");
        // Two lamps in either order, and a third that is not asked for.
        Desk lamps = Desk.ready("(define (domain d) (:predicates (on ?x)) (:action lit :parameters (?x) :precondition (not (on ?x))"
            + " :effect (on ?x)))",
            "(define (problem p) (:domain d) (:objects x y z) (:init) (:goal (and (on z) (on x))))");
        duePlan("any order", lamps, 200, 2, " 0 2");
    }

    /** Two states in which the goal holds at the same cost: the first way in order counts. */
    private static void laterGoalsOfOneLayer() {
        Desk desk = Desk.ready("(define (domain d) (:predicates (a) (b) (g) (h)) (:action one :parameters () :precondition (b)"
            + " :effect (and (g) (h))) (:action two :parameters () :effect (a)) (:action three :parameters () :effect (b))"
            + " (:action four :parameters () :precondition (a) :effect (g)))",
            "(define (problem p) (:domain d) (:objects x) (:init) (:goal (g)))");
        duePlan("another state", desk, 200, 2, " 1 3");
    }

    private static void goThenCome() {
        Desk desk = Desk.ready("(define (domain d) (:predicates (a ?x) (g)) (:action swap :parameters (?x ?y) :precondition (a ?x)"
            + " :effect (and (a ?y) (not (a ?x)))) (:action end :parameters (?x) :precondition (and (a ?x) (not (g)))"
            + " :effect (and (not (a ?x)) (g))))",
            "(define (problem p) (:domain d) (:objects x y) (:init (a x)) (:goal (and (g) (not (a x)) (not (a y)))))");
        duePlan("goes", desk, 200, 1, " 4");
        for (int k : new int[] {0, 0, 1, 3, 2, 0, 4}) {
            Desk.due("put", true, () -> desk.planner.put(k));
        }
        // What goes and comes in one step is there.
        Desk.due("check", 7, desk.planner::check);
    }

    private static void noPlan() {
        Desk desk = moves("(and (g) (a))", move("one", "a", "b", 9), move("two", "b", "g", 5));
        Desk.due("three states, no plan", -1, () -> desk.planner.plan(3));
        Desk.due("no steps", NSE, desk.planner::steps);
        Desk.due("no step", NSE, () -> desk.planner.step(0));
        Desk.due("no letter", IOB, () -> desk.planner.letter(0));
        Desk.due("more than two", UOE, () -> desk.planner.plan(2));
        Desk untrue = moves("(and (a) (not (= x x)))", move("one", "a", "b", 9));
        Desk.due("a goal that can't hold", -1, () -> untrue.planner.plan(2));
        Desk.due("its states are counted", UOE, () -> untrue.planner.plan(1));
        Desk still = Desk.ready("(define (domain d) (:types t) (:predicates (g)) (:action a :parameters (?x - t) :effect (g)))",
            "(define (problem p) (:domain d) (:objects x) (:init) (:goal (g)))");
        Desk.due("no step at all", -1, () -> still.planner.plan(1));
        Desk same = Desk.ready("(define (domain d) (:predicates (g)) (:action a :parameters () :effect (not (g))))",
            "(define (problem p) (:domain d) (:objects x) (:init) (:goal (g)))");
        Desk.due("the first state again and again", -1, () -> same.planner.plan(1));
    }

    /** Six lamps: 64 states, those with k lit ones at cost k. */
    private static void stateLimit() {
        Desk desk = Desk.ready("(define (domain d) (:predicates (on ?x)) (:action lit :parameters (?x) :effect (on ?x)))",
            "(define (problem p) (:domain d) (:objects a b c d e f) (:init) (:goal (and (on d) (on c) (on f) (on e))))");
        Desk.due("1 + 6 + 15 + 20 states", UOE, () -> desk.planner.plan(41));
        duePlan("just so many", desk, 42, 4, " 2 3 4 5");
        Desk.due("a plan is forgotten", UOE, () -> desk.planner.plan(1));
        Desk.due("no steps", NSE, desk.planner::steps);
        Desk.due("no step", NSE, () -> desk.planner.step(0));
        Desk.due("no letter", IOB, () -> desk.planner.letter(0));
        duePlan("again", desk, 200, 4, " 2 3 4 5");
        Desk.due("states 0", IAE, () -> desk.planner.plan(0));
        Desk.due("states 201", IAE, () -> desk.planner.plan(201));
        Desk.due("the plan stays", " 2 3 4 5", desk::planSteps);
        Desk many = Desk.ready("(define (domain d) (:predicates (on ?x) (up ?x)) (:action lit :parameters (?x) :effect (on ?x))"
            + "(:action lift :parameters (?x) :effect (up ?x)))",
            "(define (problem p) (:domain d) (:objects a b c d e f) (:init) (:goal (and (on f) (up f) (on a) (up a))))");
        // 1 + 12 + 66 + 220.
        Desk.due("299 states", UOE, () -> many.planner.plan(200));
        Desk never = Desk.ready("(define (domain d) (:predicates (on ?x) (g)) (:action lit :parameters (?x) :effect (on ?x)))",
            "(define (problem p) (:domain d) (:objects a b c d e f) (:init) (:goal (g)))");
        Desk.due("63 are too few", UOE, () -> never.planner.plan(63));
        Desk.due("64 are enough", -1, () -> never.planner.plan(64));
    }

    /** States that cost as much as the plan are not counted, wherever they come. */
    private static void limitBesideTheGoal() {
        Desk desk = Desk.ready("(define (domain d) (:predicates (on ?x)) (:action lit :parameters (?x) :effect (on ?x)))",
            "(define (problem p) (:domain d) (:objects a b c d e f) (:init) (:goal (on f)))");
        duePlan("behind five others", desk, 1, 1, " 5");
        Desk front = Desk.ready("(define (domain d) (:predicates (on ?x)) (:action lit :parameters (?x) :effect (on ?x)))",
            "(define (problem p) (:domain d) (:objects a b c d e f) (:init) (:goal (on a)))");
        duePlan("before five others", front, 1, 1, " 0");
    }

    /** A counter of four bits, and a fifth that starts it again at 8: the only way has 23 steps. */
    private static void longPlan() {
        String begin = " :parameters () :precondition (and ";
        Desk desk = Desk.ready("(define (domain d) (:predicates (a) (b) (c) (d) (e))"
            + "(:action s" + begin + "(not (a))) :effect (a))"
            + "(:action t" + begin + "(not (b)) (a)) :effect (and (b) (not (a))))"
            + "(:action u" + begin + "(not (c)) (b) (a)) :effect (and (c) (not (b)) (not (a))))"
            + "(:action v" + begin + "(not (d)) (c) (b) (a)) :effect (and (d) (not (c)) (not (b)) (not (a))))"
            + "(:action w" + begin + "(d) (c) (b) (a)) :effect (and (e) (not (c)) (not (b)) (not (a)))))",
            "(define (problem p) (:domain d) (:objects x) (:init) (:goal (and (e) (c) (b) (a))))");
        Desk.due("too few", UOE, () -> desk.planner.plan(22));
        duePlan("a long row", desk, 23, 23, " 0 1 0 2 0 1 0 3 0 1 0 2 0 1 0 4 0 1 0 2 0 1 0");
        Desk.due("letters", 23 * 4, () -> desk.letters().length());
        Desk walk = Desk.ready("(define (domain d) (:predicates (a ?x) (n ?x ?y)) (:action go :parameters (?x ?y)"
            + " :precondition (and (a ?x) (n ?x ?y)) :effect (and (a ?y) (not (a ?x)) (increase (total-cost) 999))))",
            "(define (problem p) (:domain d) (:objects a b c d e) (:init (a a) (n a b) (n b c) (n c d) (n d e))"
            + " (:goal (a e)))");
        Desk.due("too few", UOE, () -> walk.planner.plan(3));
        duePlan("a walk", walk, 4, 3996, " 1 7 13 19");
        Desk.due("letters", "(go a b)\n(go b c)\n(go c d)\n(go d e)\n", walk::letters);
    }

    private static void groundSteps() {
        Desk desk = Desk.ready("(define (domain d) (:types t u) (:predicates (p ?x ?y)) (:action one :parameters (?x - u ?y - t ?z)"
            + " :precondition (not (= ?y ?z)) :effect (and (p ?x ?y) (increase (total-cost) 120)))"
            + " (:action two :parameters (?x ?y) :precondition (= ?x ?y) :effect (p ?x ?y)))",
            "(define (problem p) (:domain d) (:objects a - t b - u c - t) (:init) (:goal (p a a)))");
        // one: b with a or c and another; two: each with itself.
        int[][] want = {{0, 1, 0, 1, 120}, {0, 1, 0, 2, 120}, {0, 1, 2, 0, 120}, {0, 1, 2, 1, 120},
            {1, 0, 0, -1, 1}, {1, 1, 1, -1, 1}, {1, 2, 2, -1, 1}};
        for (int step = 0; step < want.length; step++) {
            for (int what = 0; what <= 4; what++) {
                int s = step;
                int w = what;
                Desk.due("ground " + s + " " + w, want[s][w], () -> desk.planner.ground(s, w));
            }
        }
        Desk.due("no such step", NSE, () -> desk.planner.ground(7, 0));
        Desk.due("no such step", NSE, () -> desk.planner.ground(-1, 0));
        Desk.due("no such step, nor what", NSE, () -> desk.planner.ground(7, 5));
        Desk.due("no such what", IAE, () -> desk.planner.ground(0, 5));
        Desk.due("no such what", IAE, () -> desk.planner.ground(6, -1));
    }

    private static void letters() {
        Desk desk = Desk.ready("(define (domain d) (:predicates (p ?x) (q)) (:action abc123 :parameters (?x ?y ?z)"
            + " :precondition (and (= ?x ?y) (= ?y ?z)) :effect (p ?x)) (:action b :parameters () :effect (q)))",
            "(define (problem p) (:domain d) (:objects x lo9ng6 0) (:init) (:goal (and (p lo9ng6) (p 0) (q))))");
        Desk.due("before a plan", IOB, () -> desk.planner.letter(0));
        Desk.due("plan", 3, () -> desk.planner.plan(200));
        String want = "(abc123 lo9ng6 lo9ng6 lo9ng6)\n(abc123 0 0 0)\n(b)\n";
        Desk.due("letters", want, desk::letters);
        Desk.due("behind the last", IOB, () -> desk.planner.letter(want.length()));
        Desk.due("before the first", IOB, () -> desk.planner.letter(-1));
        Desk.due("far off", IOB, () -> desk.planner.letter(Integer.MAX_VALUE));
        Desk.due("far off", IOB, () -> desk.planner.letter(Integer.MIN_VALUE));
    }

    private static void wrongInputs() {
        Desk desk = moves("(g)", move("one", "a", "g", 9));
        Desk.due("steps before plan", NSE, desk.planner::steps);
        Desk.due("step before plan", NSE, () -> desk.planner.step(0));
        Desk.due("states", IAE, () -> desk.planner.plan(-1));
        Desk.due("states", IAE, () -> desk.planner.plan(Integer.MIN_VALUE));
        Desk.due("states", IAE, () -> desk.planner.plan(Integer.MAX_VALUE));
        duePlan("one", desk, 1, 9, " 0");
        Desk.due("step -1", NSE, () -> desk.planner.step(-1));
        Desk.due("step 1", NSE, () -> desk.planner.step(1));
        desk.problem("oops");
        Desk.due("no problem", ISE, () -> desk.planner.plan(0));
        Desk.due("no problem", NSE, () -> desk.planner.ground(0, 9));
    }
}
