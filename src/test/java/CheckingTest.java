/** Promises 11 to 13: put, check, estimate. */
public final class CheckingTest {
    private static final String ISE = "IllegalStateException";
    private static final String IAE = "IllegalArgumentException";

    private static final String WALK = "(define (domain d) (:predicates (a ?x) (g)) (:action go :parameters (?x ?y)"
        + " :precondition (and (a ?x) (not (= ?x ?y))) :effect (and (not (a ?x)) (a ?y) (increase (total-cost) 5)))"
        + " (:action end :parameters (?x) :precondition (and (a ?x) (not (g))) :effect (g)))";
    private static final String WALKED =
        "(define (problem p) (:domain d) (:objects x y) (:init (a x)) (:goal (and (g) (a y) (not (a x)))))";

    public static void main(String[] args) {
        rows();
        fullRow();
        emptyRow();
        otherProblem();
        estimates();
        estimateOfAtoms();
        highEstimates();
        Desk.end("CheckingTest");
    }

    /** Steps: 0 go x y, 1 go y x, 2 end x, 3 end y. */
    private static void rows() {
        Desk desk = Desk.ready(WALK, WALKED);
        desk.dueCheck(6, 0, 3);
        desk.dueCheck(6, 2, 0);
        desk.dueCheck(16, 0, 1, 0, 3);
        desk.dueCheck(-1, 1);
        desk.dueCheck(-1, 3, 0);
        desk.dueCheck(-2, 0, 0, 1);
        desk.dueCheck(-3, 2, 0, 3);
        desk.dueCheck(-100, 0);
        desk.dueCheck(-100);
        desk.dueCheck(-100, 2);
        Desk.due("put -1", false, () -> desk.planner.put(-1));
        Desk.due("put 4", false, () -> desk.planner.put(4));
        Desk.due("put far off", false, () -> desk.planner.put(Integer.MAX_VALUE));
        Desk.due("put", true, () -> desk.planner.put(2));
        Desk.due("plan", 6, () -> desk.planner.plan(200));
        Desk.due("put", true, () -> desk.planner.put(0));
        Desk.due("a plan between does not matter", 6, desk.planner::check);
        Desk.due("nor does a row to the plan", " 0 3", desk::planSteps);
    }

    private static void fullRow() {
        Desk desk = Desk.ready(WALK, WALKED);
        for (int k = 0; k < 59; k++) {
            int step = k % 2;
            Desk.due("put " + k, true, () -> desk.planner.put(step));
        }
        Desk.due("put 59", true, () -> desk.planner.put(3));
        Desk.due("put 60", false, () -> desk.planner.put(1));
        Desk.due("sixty steps", 59 * 5 + 1, desk.planner::check);
        Desk.due("room again", true, () -> desk.planner.put(0));
        for (int k = 1; k < 59; k++) {
            int step = k % 2;
            Desk.due("put " + k, true, () -> desk.planner.put(step));
        }
        Desk.due("put 59", true, () -> desk.planner.put(0));
        Desk.due("the last one can't be done", -60, desk.planner::check);
        Desk.due("empty", -100, desk.planner::check);
    }

    private static void emptyRow() {
        Desk desk = Desk.ready(WALK, "(define (problem p) (:domain d) (:objects x) (:init (a x)) (:goal (not (g))))");
        Desk.due("the goal holds at once", 0, desk.planner::check);
        Desk never = Desk.ready(WALK, "(define (problem p) (:domain d) (:objects x) (:init (a x)) (:goal (not (= x x))))");
        Desk.due("the goal can't hold", -100, never.planner::check);
    }

    private static void otherProblem() {
        Desk desk = Desk.ready(WALK, WALKED);
        Desk.due("put", true, () -> desk.planner.put(3));
        desk.problem(WALKED);
        Desk.due("a problem empties the row", -100, desk.planner::check);
        desk.problem("oops");
        Desk.due("no problem", false, () -> desk.planner.put(0));
        Desk.due("no problem", ISE, desk.planner::check);
        Desk.due("no problem", ISE, () -> desk.planner.estimate(0));
        Desk.due("no problem, no such what", ISE, () -> desk.planner.estimate(2));
    }

    private static void dueEstimates(String what, Desk desk, int greatest, int sum) {
        Desk.due(what + ": greatest", greatest, () -> desk.planner.estimate(0));
        Desk.due(what + ": sum", sum, () -> desk.planner.estimate(1));
    }

    private static void estimates() {
        Desk walk = Desk.ready(WALK, WALKED);
        dueEstimates("atoms with not do not count", walk, 5, 6);
        Desk.due("what -1", IAE, () -> walk.planner.estimate(-1));
        Desk.due("what 2", IAE, () -> walk.planner.estimate(2));
        String domain = "(define (domain d) (:predicates (a) (b) (c) (e)) (:action one :parameters () :effect (and (a) (b)"
            + " (increase (total-cost) 4))) (:action two :parameters () :precondition (and (a) (b) (not (c))) :effect (and (c)"
            + " (not (a)) (increase (total-cost) 3))) (:action three :parameters () :precondition (not (b)) :effect (and (c)"
            + " (not (c)) (increase (total-cost) 10))))";
        String problem = "(define (problem p) (:domain d) (:objects x y) (:init ";
        // c costs 3 + 4 by the greatest, and the least of 3 + 8 and 10 by the sum.
        dueEstimates("by two ways", Desk.ready(domain, problem + ") (:goal (c)))"), 7, 10);
        dueEstimates("two atoms", Desk.ready(domain, problem + ") (:goal (and (c) (a))))"), 7, 14);
        dueEstimates("in the state", Desk.ready(domain, problem + "(a) (b)) (:goal (and (c) (a))))"), 3, 3);
        dueEstimates("one in the state", Desk.ready(domain, problem + "(b)) (:goal (c)))"), 7, 7);
        dueEstimates("can't come", Desk.ready(domain, problem + ") (:goal (and (c) (e))))"), -1, -1);
        dueEstimates("it is there", Desk.ready(domain, problem + "(e)) (:goal (e)))"), 0, 0);
        dueEstimates("no atom without not", Desk.ready(domain, problem + "(a)) (:goal (not (a))))"), 0, 0);
        dueEstimates("= does not matter", Desk.ready(domain, problem + ") (:goal (and (a) (= x y))))"), 4, 4);
        Desk chain = Desk.ready("(define (domain d) (:predicates (a) (b) (c)) (:action one :parameters () :precondition (b) :effect (c))"
            + " (:action two :parameters () :precondition (a) :effect (b)) (:action three :parameters () :effect (a)))",
            "(define (problem p) (:domain d) (:objects x) (:init) (:goal (and (c) (b))))");
        dueEstimates("steps told from the last to the first", chain, 3, 5);
        Desk circle = Desk.ready("(define (domain d) (:predicates (a) (b)) (:action one :parameters () :precondition (a) :effect (b))"
            + " (:action two :parameters () :precondition (b) :effect (a)))",
            "(define (problem p) (:domain d) (:objects x) (:init) (:goal (a)))");
        dueEstimates("each needs the other", circle, -1, -1);
    }

    /** Each atom of a goal counts as it is told, and so do those of a step. */
    private static void estimateOfAtoms() {
        String domain = "(define (domain d) (:predicates (a ?x) (b)) (:action one :parameters (?x) :effect (a ?x))"
            + " (:action two :parameters (?x ?y) :precondition (and (a ?x) (a ?y)) :effect (b)))";
        dueEstimates("an atom that is told twice",
            Desk.ready(domain, "(define (problem p) (:domain d) (:objects x) (:init) (:goal (and (a x) (a x))))"), 1, 2);
        dueEstimates("one object for two variables",
            Desk.ready(domain, "(define (problem p) (:domain d) (:objects x) (:init) (:goal (b)))"), 2, 3);
    }

    /** Sums that double with each step, up to the bound of what is told and above it. */
    private static void highEstimates() {
        String begin = "(define (domain d) (:predicates (a ?x) (b ?x) (n ?x ?y)) (:action one :parameters (?x ?y) :precondition"
            + " (and (n ?x ?y) (a ?x) (b ?x)) :effect (and (a ?y) (b ?y) (increase (total-cost) ";
        String problem = "(define (problem p) (:domain d) (:objects q r s t u) (:init (a q) (n q r) (n r s) (n s t) (n t u)"
            + " (b q)) (:goal ";
        // r 999, s 999 + 2 * 999, t 7 * 999, u 15 * 999.
        dueEstimates("high", Desk.ready(begin + "999))))", problem + "(and (a u) (b u))))"), 3996, 29970);
        String steep = "(define (domain d) (:predicates (a) (b) (c) (e) (f) (g)) (:action one :parameters () :effect (and (a) "
            + "(increase (total-cost) 999))) (:action two :parameters () :precondition (and (a) (a) (a) (a)) :effect (b))"
            + "(:action three :parameters () :precondition (and (b) (b) (b) (b)) :effect (c))"
            + "(:action four :parameters () :precondition (and (c) (c) (c) (c)) :effect (e))"
            + "(:action five :parameters () :precondition (and (e) (e) (e) (e)) :effect (f)))";
        dueEstimates("below the bound", Desk.ready(steep, "(define (problem p) (:domain d) (:objects x) (:init) (:goal (and (e))))"),
            1002, 63957);
        dueEstimates("above the bound", Desk.ready(steep, "(define (problem p) (:domain d) (:objects x) (:init) (:goal (and (f))))"),
            1003, 100000);
        dueEstimates("a sum above the bound",
            Desk.ready(steep, "(define (problem p) (:domain d) (:objects x) (:init) (:goal (and (e) (e))))"), 1002, 100000);
        dueEstimates("above the bound, yet it can't come",
            Desk.ready(steep, "(define (problem p) (:domain d) (:objects x) (:init) (:goal (and (f) (g))))"), -1, -1);
    }
}
