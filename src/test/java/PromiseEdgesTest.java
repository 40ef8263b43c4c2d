/** Each sentence of promises 1 to 13 that names a boundary or a refused call, in the document's order. */
public final class PromiseEdgesTest {
    private static final String ISE = "IllegalStateException";
    private static final String IAE = "IllegalArgumentException";
    private static final String UOE = "UnsupportedOperationException";
    private static final String NSE = "NoSuchElementException";
    private static final String IOB = "IndexOutOfBoundsException";
    private static final int[] FAR = {Integer.MIN_VALUE, Integer.MIN_VALUE + 1, -1000, 1000, 1 << 16, Integer.MAX_VALUE};

    private static final String DOMAIN = "(define (domain d) (:predicates (p)) (:action a :parameters () :effect (p)))";
    private static final String PROBLEM = "(define (problem q) (:domain d) (:objects x) (:init) (:goal (p)))";
    /** The goal holds at once. */
    private static final String SOLVED = "(define (problem q) (:domain d) (:objects x) (:init (p)) (:goal (p)))";
    /** The goal never holds. */
    private static final String HOPELESS = "(define (problem q) (:domain d) (:objects x) (:init) (:goal (and (p) (not (p)))))";
    private static final int BLANKS = 0x20202020;

    public static void main(String[] args) {
        newObject();
        bytes();
        refusedText();
        fullText();
        domainCount();
        afterDomain();
        domainWithFault();
        problemCount();
        afterProblem();
        problemWithoutDomain();
        problemWithFault();
        tooManyFacts();
        tooManySteps();
        faults();
        planCost();
        planWithoutProblem();
        numberOfStates();
        manyStates();
        statesWithoutPlan();
        steps();
        step();
        ground();
        refusedGround();
        letters();
        longestPlan();
        noLetters();
        put();
        refusedPut();
        check();
        checkedRow();
        refusedCheck();
        estimate();
        estimateBound();
        refusedEstimate();
        manyCalls();
        Desk.end("PromiseEdgesTest");
    }

    /** All that there is without a problem, and that nothing of it changes anything. */
    private static void dueNoProblem(CheapPlanner x) {
        Desk.due("plan", ISE, () -> x.plan(200));
        Desk.due("plan", ISE, () -> x.plan(0));
        dueNoPlan(x);
        Desk.due("ground", NSE, () -> x.ground(0, 0));
        Desk.due("ground", NSE, () -> x.ground(0, 5));
        Desk.due("put", false, () -> x.put(0));
        Desk.due("check", ISE, x::check);
        Desk.due("estimate", ISE, () -> x.estimate(0));
        Desk.due("estimate", ISE, () -> x.estimate(1));
        Desk.due("estimate", ISE, () -> x.estimate(2));
    }

    private static void dueNoPlan(CheapPlanner x) {
        Desk.due("steps", NSE, x::steps);
        Desk.due("step", NSE, () -> x.step(0));
        Desk.due("letter", IOB, () -> x.letter(0));
    }

    private static void dueNoText(CheapPlanner x) {
        Desk.due("domain without a text", IAE, x::domain);
        Desk.due("fault", 1, x::fault);
    }

    private static void dueTextLength(int length, CheapPlanner x) {
        Desk.due("domain of " + length, IAE, x::domain);
        Desk.due("fault", 1 + 10 * length, x::fault);
    }

    private static void newObject() {
        Desk.sentence("1: No text, no domain, no problem.");
        CheapPlanner x = new CheapPlanner();
        Desk.due("fault", 0, x::fault);
        dueNoProblem(x);
        Desk.due("problem", ISE, x::problem);
        Desk.due("fault", 0, x::fault);
        dueNoText(x);
        // Two objects have nothing in common.
        Desk one = Desk.ready(DOMAIN, PROBLEM);
        one.type("(define");
        Desk.due("problem of a newer object", ISE, new CheapPlanner()::problem);
        Desk.due("plan of the older one", 1, () -> one.planner.plan(1));
    }

    private static void bytes() {
        Desk.sentence("2: the bytes of each number, the highest first, but for bytes that are 0");
        CheapPlanner x = new CheapPlanner();
        Desk.due("no character", true, () -> x.text(0, 0, 0, 0, 0));
        dueNoText(x);
        Desk.due("one", true, () -> x.text(0, 0, 0, 0, 0x20));
        dueTextLength(1, x);
        Desk.due("nineteen", true, () -> x.text(BLANKS, BLANKS, BLANKS, BLANKS, 0x20202000));
        dueTextLength(19, x);
        Desk.due("twenty", true, () -> x.text(BLANKS, BLANKS, BLANKS, BLANKS, BLANKS));
        dueTextLength(20, x);
        Desk.due("gaps", true, () -> x.text(0x20002000, 0x00200020, 0, 0x20000020, 0x00202000));
        dueTextLength(8, x);
        // ( d e f i n e X: the word behind the parenthesis is the right one, the next token is not.
        Desk.due("order", true, () -> x.text(0x28640065, 0x66006900, 0, 0x0000006E, 0x65205800));
        Desk.due("domain", IAE, x::domain);
        Desk.due("fault", 81, x::fault);
    }

    private static void refusedText() {
        Desk.sentence("2: True; false, and nothing comes, if one is none of the codes said");
        for (int bad : new int[] {1, 10, 31, 127, 128, 160, 255}) {
            for (int place = 0; place < 20; place++) {
                int[] n = {BLANKS, BLANKS, BLANKS, BLANKS, BLANKS};
                int shift = 24 - 8 * (place % 4);
                n[place / 4] = n[place / 4] & ~(255 << shift) | bad << shift;
                CheapPlanner x = new CheapPlanner();
                Desk.due("three", true, () -> x.text(0x20, 0x20, 0x20, 0, 0));
                Desk.due("code " + bad + " at " + place, false, () -> x.text(n[0], n[1], n[2], n[3], n[4]));
                Desk.due("one more", true, () -> x.text(0x20, 0, 0, 0, 0));
                dueTextLength(4, x);
            }
        }
        // The text before and behind a refused call is one.
        Desk desk = new Desk();
        desk.type(DOMAIN.substring(0, 30));
        Desk.due("refused", false, () -> desk.planner.text(BLANKS, BLANKS, BLANKS, BLANKS, 0x20202009));
        desk.type(DOMAIN.substring(30));
        Desk.due("domain", 1, desk.planner::domain);
    }

    private static void fullText() {
        Desk.sentence("2: or 600 would be passed.");
        for (int before = 579; before <= 600; before++) {
            Desk desk = new Desk();
            CheapPlanner x = desk.planner;
            int length = before;
            Desk.due("type " + length, true, () -> desk.type(" ".repeat(length)));
            Desk.due("twenty more than " + length, length <= 580, () -> x.text(BLANKS, BLANKS, BLANKS, BLANKS, BLANKS));
            dueTextLength(length <= 580 ? length + 20 : length, x);
            Desk.due("room again", true, () -> x.text(BLANKS, BLANKS, BLANKS, BLANKS, BLANKS));
            dueTextLength(20, x);
        }
        Desk full = new Desk();
        full.type(" ".repeat(600));
        Desk.due("one more", false, () -> full.planner.text(0, 0, 0, 0, 0x20));
        Desk.due("none more", true, () -> full.planner.text(0, 0, 0, 0, 0));
        Desk.due("a wrong code", false, () -> full.planner.text(0, 7, 0, 0, 0));
        dueTextLength(600, full.planner);
    }

    private static void domainCount() {
        Desk.sentence("3: Reads the text as a domain: how many actions it has.");
        Desk desk = new Desk();
        StringBuilder text = new StringBuilder("(define (domain d) (:predicates (p))");
        for (int count = 1; count <= 5; count++) {
            text.append("(:action ").append((char) ('a' + count)).append(" :parameters () :effect (p))");
            desk.dueDomain(count, 0, text + ")");
        }
    }

    private static void afterDomain() {
        Desk.sentence("3: There is no problem then, and no text, in either case.");
        for (boolean good : new boolean[] {true, false}) {
            Desk desk = Desk.ready(DOMAIN, PROBLEM);
            Desk.due("plan", 1, () -> desk.planner.plan(1));
            Desk.due("put", true, () -> desk.planner.put(0));
            desk.type(good ? DOMAIN : "oops");
            Desk.due("domain", good ? 1 : IAE, desk.planner::domain);
            dueNoProblem(desk.planner);
            dueNoText(desk.planner);
        }
    }

    private static void domainWithFault() {
        Desk.sentence("3: IllegalArgumentException: it has a fault; there is no domain then.");
        Desk desk = new Desk();
        desk.dueDomain(1, 0, DOMAIN);
        desk.dueDomainFault(1, "^");
        Desk.due("problem", ISE, () -> desk.problem(PROBLEM));
        Desk.due("the problem's text is no domain", IAE, desk.planner::domain);
        Desk.due("problem", ISE, desk.planner::problem);
        desk.dueDomain(1, 0, DOMAIN);
        desk.dueProblem(1, 0, PROBLEM);
    }

    private static void problemCount() {
        Desk.sentence("4: how many steps there are (all that could be, done or not).");
        Desk desk = new Desk();
        desk.dueDomain(2, 0, "(define (domain d) (:types t) (:predicates (p) (q)) (:action a :parameters (?x - t) :precondition (q)"
            + " :effect (p)) (:action b :parameters (?x - t ?y - t) :precondition (and (p) (not (p))) :effect (p)))");
        String[] objects = {"x", "x - t", "x - t y", "x - t y - t", "x - t y - t z - t"};
        int[] counts = {0, 2, 2, 6, 12};
        for (int i = 0; i < objects.length; i++) {
            desk.dueProblem(counts[i], 0, "(define (problem q) (:domain d) (:objects " + objects[i] + ") (:init) (:goal (p)))");
            Desk.due("plan", -1, () -> desk.planner.plan(200));
        }
        desk.dueProblem(2, 0, "(define (problem q) (:domain d) (:objects x - t) (:init (q)) (:goal (p)))");
        Desk.due("plan", 1, () -> desk.planner.plan(200));
        // Where there are fewer steps, none of the problem before is left.
        Desk fewer = Desk.ready("(define (domain d) (:predicates (p ?x)) (:action a :parameters (?x) :effect (p ?x)))",
            "(define (problem q) (:domain d) (:objects x y) (:init) (:goal (p y)))");
        fewer.dueProblem(1, 0, "(define (problem q) (:domain d) (:objects x) (:init) (:goal (not (= x x))))");
        Desk.due("two states", -1, () -> fewer.planner.plan(2));
        desk.dueProblem(0, 0, "(define (problem q) (:domain d) (:objects x) (:init (q)) (:goal (p)))");
        Desk.due("plan", -1, () -> desk.planner.plan(200));
        Desk.due("estimate", -1, () -> desk.planner.estimate(0));
    }

    private static void afterProblem() {
        Desk.sentence("4: There is no plan, and no text, then in either case.");
        for (String text : new String[] {PROBLEM, SOLVED, "oops", ""}) {
            Desk desk = Desk.ready(DOMAIN, PROBLEM);
            Desk.due("plan", 1, () -> desk.planner.plan(1));
            boolean good = text.equals(PROBLEM) || text.equals(SOLVED);
            Desk.due("problem of " + text, good ? 1 : IAE, () -> desk.problem(text));
            dueNoPlan(desk.planner);
            Desk.due("no text", IAE, desk.planner::problem);
            Desk.due("fault", 1, desk.planner::fault);
        }
    }

    private static void problemWithoutDomain() {
        Desk.sentence("4: IllegalStateException: there is no domain (nothing changes then)");
        Desk desk = new Desk();
        desk.dueDomainFault(1, "^oops");
        desk.dueDomainFault(1, "  ^oops");
        desk.type(DOMAIN.substring(0, 40));
        Desk.due("problem", ISE, desk.planner::problem);
        Desk.due("the fault stays", 21, desk.planner::fault);
        desk.type(DOMAIN.substring(40));
        Desk.due("problem", ISE, desk.planner::problem);
        Desk.due("the text stays", 1, desk.planner::domain);
        desk.dueProblem(1, 0, PROBLEM);
    }

    private static void problemWithFault() {
        Desk.sentence("4: IllegalArgumentException: it has a fault (there is no problem then)");
        Desk desk = Desk.ready(DOMAIN, PROBLEM);
        desk.planner.plan(1);
        desk.planner.put(0);
        desk.dueProblemFault(3, PROBLEM.replace("(:goal (p", "(:goal (^q"));
        dueNoProblem(desk.planner);
        // The domain is still there, and nothing of the old row or plan.
        desk.dueProblem(1, 0, PROBLEM);
        dueNoPlan(desk.planner);
        desk.dueCheck(-100);
        desk.dueProblemFault(1, PROBLEM + "^)");
        dueNoProblem(desk.planner);
    }

    private static String objects(int count) {
        return "(define (problem q) (:domain d) (:objects" + " a b c d e f".substring(0, 2 * count) + ") (:init) (:goal (p)))";
    }

    /** A domain whose predicates, beside (p), make so many facts with six objects. */
    private static String factDomain(String predicates) {
        return "(define (domain d) (:types t) (:predicates (p)" + predicates + ") (:action a :parameters () :effect (p)))";
    }

    private static void tooManyFacts() {
        Desk.sentence("4: UnsupportedOperationException: there are more than 40 facts (all predicates with all objects that fit)");
        Desk desk = new Desk();
        String[] predicates = {"(q ?x ?y)", "(q ?x ?y)(r)(s)", "(q ?x ?y)(r)(s)(t)", "(q ?x ?y)(r)(s)(t)(u)", "(q ?x ?y)(r ?x)"};
        int[] counts = {37, 39, 40, 41, 43};
        for (int i = 0; i < counts.length; i++) {
            desk.dueDomain(1, 0, factDomain(predicates[i]));
            desk.dueProblem(counts[i] > 40 ? UOE : 1, 0, objects(6));
            Desk.due("plan", counts[i] > 40 ? ISE : 1, () -> desk.planner.plan(200));
            Desk.due("estimate", counts[i] > 40 ? ISE : 1, () -> desk.planner.estimate(1));
        }
        // Of a type: three objects fit, so 9 + 18 + 6 + 3 + 3 and (p) are forty; four make 16 + 24 + 6 + 4 + 4 and one.
        desk.dueDomain(1, 0, factDomain("(q ?x - t ?y - t)(r ?x ?y - t)(s ?x)(u ?x - t)(v ?x - t)"));
        desk.dueProblem(1, 0, objects(6).replace("d e f", "d - t e - t f - t"));
        desk.dueProblem(UOE, 0, objects(6).replace("c d e f", "c - t d - t e - t f - t"));
        desk.dueProblem(1, 0, objects(6));
        Desk.sentence("4: (no problem then, either)");
        Desk.due("plan", 1, () -> desk.planner.plan(200));
        Desk.due("put", true, () -> desk.planner.put(0));
        desk.dueProblem(UOE, 0, objects(6).replace("c d e f", "c - t d - t e - t f - t"));
        dueNoProblem(desk.planner);
        Desk.due("no text", IAE, desk.planner::problem);
        desk.dueProblem(1, 0, objects(6));
        dueNoPlan(desk.planner);
        desk.dueCheck(-100);
    }

    private static void tooManySteps() {
        Desk.sentence("4: or 40 steps");
        Desk desk = new Desk();
        String pairs = "(define (domain d) (:predicates (p)) (:action a :parameters (?x ?y) :effect (p))";
        String empty = " :parameters () :effect (p))";
        String[] more = {"", "(:action b" + empty, "(:action c" + empty, "(:action e" + empty, "(:action f" + empty};
        StringBuilder text = new StringBuilder(pairs);
        for (int i = 0; i < more.length; i++) {
            text.append(more[i]);
            desk.dueDomain(i + 1, 0, text + ")");
            desk.dueProblem(36 + i, 0, objects(6));
        }
        text.setLength(text.length() - more[4].length());
        desk.dueDomain(5, 0, text + "(:action f :parameters (?x ?y ?z) :precondition (and (= ?x ?y) (= ?y ?z)) :effect (p)))");
        // 4 + 3 + 2 with two objects, 36 + 3 + 6 with six.
        desk.dueProblem(9, 0, objects(2));
        desk.dueProblem(UOE, 0, objects(6));
        // 36 + 5, since not = leaves 5 of 6 ways.
        desk.dueDomain(2, 0, "(define (domain d) (:types t) (:predicates (p)) (:action a :parameters (?x ?y) :effect (p)) (:action b"
            + " :parameters (?x ?y - t) :precondition (not (= ?x ?y)) :effect (p)))");
        desk.dueProblem(UOE, 0, objects(6).replace("f)", "f - t)"));
        Desk.due("no step of it is left", NSE, () -> desk.planner.ground(0, 0));
        desk.dueProblem(29, 0, objects(5).replace("e)", "e - t)"));
        // 3 * 3 * 3 ways are fewer than forty, 4 * 4 * 4 are more.
        desk.dueDomain(1, 0, "(define (domain d) (:predicates (p)) (:action a :parameters (?x ?y ?z) :effect (p)))");
        desk.dueProblem(27, 0, objects(3));
        desk.dueProblem(UOE, 0, objects(4));
        dueNoProblem(desk.planner);
        desk.dueProblem(8, 0, objects(2));
    }

    private static void faults() {
        Desk.sentence("5: the fault's number + 10 * its place; 0 if there was none (also where there are more than 40 facts or steps).");
        Desk desk = new Desk();
        Desk.due("of none", 0, desk.planner::fault);
        desk.dueDomainFault(1, "^");
        desk.dueDomainFault(2, "(define (domain d) (:types t ^t)");
        desk.dueDomainFault(3, "(define (domain d) (:predicates (p ?x - ^t)");
        desk.dueDomainFault(4, "(define (domain d)(:types t)(:predicates(p ?x - t))(:action a :parameters(?x):effect(p ^?x))");
        desk.dueDomainFault(5, DOMAIN.replace("(p)))", "(and (increase (total-cost) 1) (^increase (total-cost) 1))))"));
        desk.dueDomain(1, 0, DOMAIN);
        desk.dueProblemFault(1, " ^");
        Desk.due("it stays", 11, desk.planner::fault);
        Desk.due("plan", ISE, () -> desk.planner.plan(1));
        desk.type(PROBLEM);
        Desk.due("it stays until a text is read", 11, desk.planner::fault);
        Desk.due("problem", 1, desk.planner::problem);
        Desk.due("none", 0, desk.planner::fault);
        desk.dueDomainFault(1, "^oops");
        desk.dueDomain(1, 0, "(define (domain d) (:predicates (p)) (:action a :parameters (?x ?y ?z) :effect (p)))");
        desk.dueProblemFault(1, "^oops");
        desk.dueProblem(UOE, 0, objects(6));
        desk.dueDomainFault(1, " ".repeat(600) + "^");
        desk.dueDomainFault(1, " ".repeat(599) + "^)");
    }

    private static void planCost() {
        Desk.sentence("6: Looks for the plan: its cost; -1 if there is none.");
        Desk one = Desk.ready(DOMAIN, PROBLEM);
        Desk.due("one step", 1, () -> one.planner.plan(1));
        Desk solved = Desk.ready(DOMAIN, SOLVED);
        Desk.due("a plan without steps", 0, () -> solved.planner.plan(1));
        Desk hopeless = Desk.ready(DOMAIN, HOPELESS);
        Desk.due("none", -1, () -> hopeless.planner.plan(2));
        Desk stepless = Desk.ready("(define (domain d) (:types t) (:predicates (p)) (:action a :parameters (?x - t) :effect (p)))", PROBLEM);
        Desk.due("without steps", -1, () -> stepless.planner.plan(1));
        Desk.due("a goal that holds", 0, () -> stepless.problem(SOLVED));
        Desk.due("at once, without steps", 0, () -> stepless.planner.plan(1));
    }

    private static void planWithoutProblem() {
        Desk.sentence("6: IllegalStateException: there is no problem");
        Desk desk = new Desk();
        for (int states : new int[] {-1, 0, 1, 200, 201}) {
            Desk.due("a new object", ISE, () -> desk.planner.plan(states));
        }
        desk.domain(DOMAIN);
        Desk.due("behind a domain", ISE, () -> desk.planner.plan(200));
        desk.problem("oops");
        Desk.due("behind a fault", ISE, () -> desk.planner.plan(200));
    }

    private static void numberOfStates() {
        Desk.sentence("6: IllegalArgumentException: states is not 1 .. 200");
        Desk desk = Desk.ready(DOMAIN, PROBLEM);
        for (int states : new int[] {1, 2, 199, 200}) {
            Desk.due("states " + states, 1, () -> desk.planner.plan(states));
        }
        for (int states : new int[] {-1, 0, 201, 202, 256, -200}) {
            Desk.due("states " + states, IAE, () -> desk.planner.plan(states));
        }
        for (int states : FAR) {
            Desk.due("states " + states, IAE, () -> desk.planner.plan(states));
        }
        // A call that is refused looks for nothing, so the plan that was found is still there.
        Desk.due("steps", 1, desk.planner::steps);
        desk.problem(PROBLEM);
        Desk.due("states 0", IAE, () -> desk.planner.plan(0));
        dueNoPlan(desk.planner);
    }

    /** Counts in binary with a carry that goes from bit to bit: each state has one step, and 282 follow one another. */
    private static Desk counter(String goal) {
        return Desk.ready("(define (domain d)(:types f l)(:predicates(n ?x ?y)(b ?x)(c ?x)(i)(k)(m))"
            + "(:action r :parameters(?x - f):precondition(not(i)):effect(and(i)(c ?x)))"
            + "(:action s :parameters(?x ?y):precondition(and(c ?x)(b ?x)(n ?x ?y)):effect(and(not(b ?x))(not(c ?x))(c ?y)))"
            + "(:action t :parameters(?x):precondition(and(c ?x)(not(b ?x))):effect(and(b ?x)(not(c ?x))(not(i))))"
            + "(:action u :parameters(?x - l):precondition(and(c ?x)(b ?x)(not(k))):effect(and(k)(not(b ?x))(not(c ?x))(not(i))))"
            + "(:action v :parameters(?x - l):precondition(and(c ?x)(b ?x)(k)):effect(and(m)(not(b ?x))(not(c ?x))(not(i)))))",
            "(define (problem p)(:domain d)(:objects a - f b c d e - l)(:init(n a b)(n b c)(n c d)(n d e))(:goal " + goal + "))");
    }

    private static void manyStates() {
        Desk.sentence("6: UnsupportedOperationException: more than so many states can be come to at less cost than the plan's (.. the"
            + " first one, too); there is no plan then.");
        // Behind 188 steps (m) comes, and the counter is at 0 again; behind 199 it is at 4, behind 201 at 5.
        Desk below = counter("(and(m)(b c))");
        Desk.due("199 states, 198 allowed", UOE, () -> below.planner.plan(198));
        Desk.due("199 states, 199 allowed", 199, () -> below.planner.plan(199));
        Desk.due("199 states, 200 allowed", 199, () -> below.planner.plan(200));
        Desk at = counter("(and(m)(b c)(i))");
        Desk.due("200 states, 199 allowed", UOE, () -> at.planner.plan(199));
        dueNoPlan(at.planner);
        Desk.due("200 states, 200 allowed", 200, () -> at.planner.plan(200));
        Desk.due("steps", 200, at.planner::steps);
        Desk.due("the last step", 0, () -> at.planner.step(199));
        Desk.due("none behind it", NSE, () -> at.planner.step(200));
        dueTold(at);
        Desk.due("199 allowed", UOE, () -> at.planner.plan(199));
        dueNoPlan(at.planner);
        Desk beyond = counter("(and(m)(b c)(b a))");
        Desk.due("201 states, 200 allowed", UOE, () -> beyond.planner.plan(200));
        dueNoPlan(beyond.planner);
        Desk one = Desk.ready(DOMAIN, PROBLEM);
        Desk.due("the first state alone", 1, () -> one.planner.plan(1));
        Desk solved = Desk.ready(DOMAIN, SOLVED);
        Desk.due("no state costs less than nothing", 0, () -> solved.planner.plan(1));
    }

    /** Compares the letters of a plan with what ground tells of its steps. */
    private static void dueTold(Desk desk) {
        StringBuilder want = new StringBuilder();
        for (int k = 0; k < desk.planner.steps(); k++) {
            int number = desk.planner.step(k);
            want.append('(').append("rstuv".charAt(desk.planner.ground(number, 0)));
            for (int what = 1; what <= 3; what++) {
                int object = desk.planner.ground(number, what);
                if (object >= 0) {
                    want.append(' ').append("abcde".charAt(object));
                }
            }
            want.append(")\n");
        }
        Desk.due("letters", want, desk::letters);
    }

    private static void statesWithoutPlan() {
        Desk.sentence("6: (than any, if there is none ..)");
        Desk hopeless = Desk.ready(DOMAIN, HOPELESS);
        Desk.due("two states, one allowed", UOE, () -> hopeless.planner.plan(1));
        dueNoPlan(hopeless.planner);
        Desk.due("two states, two allowed", -1, () -> hopeless.planner.plan(2));
        dueNoPlan(hopeless.planner);
        Desk many = counter("(and(k)(not(k)))");
        Desk.due("more than 200", UOE, () -> many.planner.plan(200));
        // Seven lamps: all states are counted, whatever they cost.
        String lamps = "(define (domain d) (:predicates (on ?x) (up) (g)) (:action a :parameters (?x) :effect (and (on ?x) (increase"
            + " (total-cost) 999))) (:action b :parameters () :effect (up)))";
        String objects = "(define (problem q) (:domain d) (:objects u v w x y z) (:init) (:goal (g)))";
        Desk seven = Desk.ready(lamps, objects);
        Desk.due("128 states, 127 allowed", UOE, () -> seven.planner.plan(127));
        Desk.due("128 states, 128 allowed", -1, () -> seven.planner.plan(128));
        Desk.due("128 states, 129 allowed", -1, () -> seven.planner.plan(129));
        // States that cost as much as the plan are not counted.
        Desk equal = Desk.ready(lamps.replace("999", "1"), objects.replace("(g)", "(up)"));
        Desk.due("six states cost as much", 1, () -> equal.planner.plan(1));
    }

    private static void steps() {
        Desk.sentence("7: NoSuchElementException: none was looked for in this problem, or there is none.");
        Desk desk = Desk.ready(DOMAIN, PROBLEM);
        Desk.due("none was looked for", NSE, desk.planner::steps);
        desk.planner.plan(1);
        Desk.due("one", 1, desk.planner::steps);
        desk.problem(PROBLEM);
        Desk.due("none was looked for in this problem", NSE, desk.planner::steps);
        desk.problem(HOPELESS);
        Desk.due("plan", -1, () -> desk.planner.plan(2));
        Desk.due("there is none", NSE, desk.planner::steps);
        desk.problem(SOLVED);
        Desk.due("plan", 0, () -> desk.planner.plan(1));
        Desk.due("no steps are a plan", 0, desk.planner::steps);
    }

    private static void step() {
        Desk.sentence("8: Step k (from 0) of the plan .. NoSuchElementException: there is none.");
        Desk desk = Desk.ready("(define (domain d) (:predicates (p ?x)) (:action a :parameters (?x) :effect (p ?x)))",
            "(define (problem q) (:domain d) (:objects x y z) (:init) (:goal (and (p z) (p y))))");
        Desk.due("before plan", NSE, () -> desk.planner.step(0));
        Desk.due("plan", 2, () -> desk.planner.plan(200));
        Desk.due("step -1", NSE, () -> desk.planner.step(-1));
        Desk.due("step 0", 1, () -> desk.planner.step(0));
        Desk.due("step 1", 2, () -> desk.planner.step(1));
        Desk.due("step 2", NSE, () -> desk.planner.step(2));
        for (int k : FAR) {
            Desk.due("step " + k, NSE, () -> desk.planner.step(k));
        }
        Desk solved = Desk.ready(DOMAIN, SOLVED);
        solved.planner.plan(1);
        Desk.due("step 0 of a plan without steps", NSE, () -> solved.planner.step(0));
        Desk hopeless = Desk.ready(DOMAIN, HOPELESS);
        hopeless.planner.plan(2);
        Desk.due("step 0 of none", NSE, () -> hopeless.planner.step(0));
    }

    private static void ground() {
        Desk.sentence("9: what 0 its action (from 0, as told), 1, 2, 3 the object of its first, second, third parameter (from 0; -1 if it"
            + " has none), 4 its cost.");
        Desk desk = Desk.ready("(define (domain d) (:predicates (p)) (:action a :parameters () :effect (p)) (:action b :parameters (?x)"
            + " :effect (p)) (:action c :parameters (?x ?y) :effect (p)) (:action e :parameters (?x ?y ?z) :effect (and (p)"
            + " (increase (total-cost) 999))))", "(define (problem q) (:domain d) (:objects x y) (:init) (:goal (p)))");
        // 1 + 2 + 4 + 8 steps.
        int[][] want = {{0, -1, -1, -1, 1}, {1, 0, -1, -1, 1}, {1, 1, -1, -1, 1}, {2, 0, 0, -1, 1}, {2, 0, 1, -1, 1},
            {2, 1, 0, -1, 1}, {2, 1, 1, -1, 1}, {3, 0, 0, 0, 999}, {3, 0, 0, 1, 999}, {3, 0, 1, 0, 999}, {3, 0, 1, 1, 999},
            {3, 1, 0, 0, 999}, {3, 1, 0, 1, 999}, {3, 1, 1, 0, 999}, {3, 1, 1, 1, 999}};
        for (int step = 0; step < want.length; step++) {
            for (int what = 0; what <= 4; what++) {
                int s = step;
                int w = what;
                Desk.due("ground " + s + " " + w, want[s][w], () -> desk.planner.ground(s, w));
            }
        }
        Desk.due("behind the last", NSE, () -> desk.planner.ground(15, 0));
        Desk most = Desk.ready("(define (domain d) (:predicates (p)) (:action a :parameters (?x ?y) :effect (p)) (:action b :parameters ()"
            + " :effect (p)) (:action c :parameters () :effect (p)) (:action e :parameters () :effect (p)) (:action f :parameters ()"
            + " :effect (p)))", objects(6));
        Desk.due("the fortieth step", 4, () -> most.planner.ground(39, 0));
        Desk.due("none behind it", NSE, () -> most.planner.ground(40, 0));
        Desk.due("the sixth object", 5, () -> most.planner.ground(35, 2));
    }

    private static void refusedGround() {
        Desk.sentence("9: NoSuchElementException: there is no problem, or no such step; IllegalArgumentException: no such what.");
        Desk desk = new Desk();
        Desk.due("a new object", NSE, () -> desk.planner.ground(0, 0));
        desk.domain(DOMAIN);
        Desk.due("behind a domain", NSE, () -> desk.planner.ground(0, 0));
        desk.problem(PROBLEM);
        Desk.due("step 0", 0, () -> desk.planner.ground(0, 0));
        Desk.due("step -1", NSE, () -> desk.planner.ground(-1, 0));
        Desk.due("step 1", NSE, () -> desk.planner.ground(1, 0));
        Desk.due("what -1", IAE, () -> desk.planner.ground(0, -1));
        Desk.due("what 5", IAE, () -> desk.planner.ground(0, 5));
        Desk.due("neither", NSE, () -> desk.planner.ground(1, 5));
        for (int far : FAR) {
            Desk.due("step " + far, NSE, () -> desk.planner.ground(far, 0));
            Desk.due("what " + far, IAE, () -> desk.planner.ground(0, far));
        }
        desk.problem("oops");
        Desk.due("behind a fault", NSE, () -> desk.planner.ground(0, 0));
    }

    private static void letters() {
        Desk.sentence("10: for each step a line: ( , the action's name, and for each object a blank and its name, ) , and a line's end (10)");
        Desk desk = Desk.ready("(define (domain d) (:predicates (p ?x) (q) (r) (s)) (:action abcdef :parameters (?x ?y ?z) :precondition"
            + " (and (not (= ?x ?y)) (= ?x ?z)) :effect (p ?x)) (:action b :parameters () :effect (q)))",
            "(define (problem q) (:domain d) (:objects 123456 z) (:init) (:goal (and (p 123456) (q))))");
        Desk.due("plan", 2, () -> desk.planner.plan(200));
        String want = "(abcdef 123456 z 123456)\n(b)\n";
        for (int i = 0; i < want.length(); i++) {
            int at = i;
            Desk.due("letter " + i, want.charAt(i), () -> desk.planner.letter(at));
        }
        Desk.due("letter behind the last", IOB, () -> desk.planner.letter(want.length()));
        Desk.due("letter -1", IOB, () -> desk.planner.letter(-1));
        for (int i : FAR) {
            Desk.due("letter " + i, IOB, () -> desk.planner.letter(i));
        }
    }

    /**
     * A head goes round five places, (h ?x), in steps of writing and moving: a counter of five bits, (b ?x), to which one comes
     * each round, (k) until it is settled. Every line has thirty characters, the most there can be, but for those that start.
     */
    private static Desk longLines() {
        Desk desk = Desk.ready("(define(domain d)(:types f g)(:predicates(n ?x ?y)(b ?x)(h ?x)(i)(k))"
            + "(:action moving :parameters(?x ?y ?z - f):precondition(and(h ?x)(n ?x ?y)(i)):effect(and(h ?y)(not(h ?x))(not(i))))"
            + "(:action clears :parameters(?x ?y - f ?z - f):precondition(and(h ?x)(b ?x)(k)):effect(and(not(b ?x))(i)))"
            + "(:action settle :parameters(?x ?y - f ?z - f):precondition(and(h ?x)(not(b ?x))(k)(not(i))):effect(and(b ?x)(i)(not(k))))"
            + "(:action passes :parameters(?x - g ?y - f ?z - f):precondition(and(h ?x)(not(k))):effect(i))"
            + "(:action starts :parameters(?x - f ?y - f):precondition(and(h ?x)(not(k))(not(i))):effect(k)))",
            "(define(problem p)(:domain d)(:objects place1 - f place2 - g place3 - g place4 - g place5 - g)(:init(h place1)"
            + "(n place1 place2)(n place2 place3)(n place3 place4)(n place4 place5)(n place5 place1))"
            + "(:goal(and(b place1)(b place2)(b place5))))");
        // Eighteen rounds of eleven steps, the start of the nineteenth, and its first bit.
        Desk.due("plan", 200, () -> desk.planner.plan(200));
        return desk;
    }

    private static String longLinesTold() {
        StringBuilder all = new StringBuilder();
        for (int before = 0; before < 19; before++) {
            all.append("(starts place1 place1)\n");
            boolean carry = true;
            for (int place = 1; place <= 5 && (before < 18 || place == 1); place++) {
                boolean bit = (before >> place - 1 & 1) != 0;
                String write = !carry ? "passes" : bit ? "clears" : "settle";
                carry = carry && bit;
                all.append('(').append(write).append(" place").append(place).append(" place1 place1)\n");
                if (before < 18) {
                    all.append("(moving place").append(place).append(" place").append(place % 5 + 1).append(" place1)\n");
                }
            }
        }
        return all.toString();
    }

    private static void longestPlan() {
        Desk.sentence("10: Character i of the plan as a text .. (of two hundred steps, nearly all with the longest lines)");
        String want = longLinesTold();
        Desk.due("the letters that are due", 181 * 30 + 19 * 23, want::length);
        // A new object for each part, since an object is used for at most 512 calls.
        int part = 400;
        for (int start = 0; start < want.length(); start += part) {
            Desk desk = longLines();
            for (int i = start; i < Math.min(want.length(), start + part); i++) {
                int at = i;
                Desk.due("letter " + i, want.charAt(i), () -> desk.planner.letter(at));
            }
        }
        Desk last = longLines();
        Desk.due("letter behind the last", IOB, () -> last.planner.letter(want.length()));
    }

    private static void noLetters() {
        Desk.sentence("10: IndexOutOfBoundsException: there is none, or no plan.");
        Desk desk = new Desk();
        Desk.due("a new object", IOB, () -> desk.planner.letter(0));
        desk.domain(DOMAIN);
        desk.problem(PROBLEM);
        Desk.due("none was looked for", IOB, () -> desk.planner.letter(0));
        desk.planner.plan(1);
        Desk.due("a plan", "(a)\n", desk::letters);
        desk.problem(HOPELESS);
        Desk.due("another problem", IOB, () -> desk.planner.letter(0));
        desk.planner.plan(2);
        Desk.due("there is no plan", IOB, () -> desk.planner.letter(0));
        desk.problem(SOLVED);
        desk.planner.plan(1);
        Desk.due("a plan without steps has no letter", IOB, () -> desk.planner.letter(0));
        desk.domain(DOMAIN);
        Desk.due("another domain", IOB, () -> desk.planner.letter(0));
    }

    private static void put() {
        Desk.sentence("11: A step comes to a row that is checked (at most 60): true; false, refused, if .. the row is full.");
        Desk desk = Desk.ready(DOMAIN, PROBLEM);
        for (int k = 1; k <= 60; k++) {
            Desk.due("put " + k, true, () -> desk.planner.put(0));
        }
        for (int k = 61; k <= 63; k++) {
            Desk.due("put " + k, false, () -> desk.planner.put(0));
        }
        Desk.due("sixty steps", 60, desk.planner::check);
        for (int k = 1; k <= 59; k++) {
            desk.planner.put(0);
        }
        Desk.due("fifty-nine steps", 59, desk.planner::check);
        // A refused step takes no room.
        Desk.due("refused", false, () -> desk.planner.put(1));
        for (int k = 1; k <= 59; k++) {
            desk.planner.put(0);
        }
        Desk.due("refused", false, () -> desk.planner.put(1));
        Desk.due("the last that has room", true, () -> desk.planner.put(0));
        Desk.due("full", false, () -> desk.planner.put(0));
        // A problem that is read makes a full row empty.
        desk.problem(PROBLEM);
        Desk.due("room again", true, () -> desk.planner.put(0));
        Desk.due("one step", 1, desk.planner::check);
    }

    private static void refusedPut() {
        Desk.sentence("11: false, refused, if there is no problem or no such step");
        Desk desk = new Desk();
        Desk.due("a new object", false, () -> desk.planner.put(0));
        desk.domain(DOMAIN);
        Desk.due("behind a domain", false, () -> desk.planner.put(0));
        desk.problem("oops");
        Desk.due("behind a fault", false, () -> desk.planner.put(0));
        desk.problem(PROBLEM);
        Desk.due("step -1", false, () -> desk.planner.put(-1));
        Desk.due("step 1", false, () -> desk.planner.put(1));
        for (int step : FAR) {
            Desk.due("step " + step, false, () -> desk.planner.put(step));
        }
        Desk.due("nothing came", -100, desk.planner::check);
        Desk.due("step 0", true, () -> desk.planner.put(0));
        Desk stepless = Desk.ready("(define (domain d) (:types t) (:predicates (p)) (:action a :parameters (?x - t) :effect (p)))", SOLVED);
        Desk.due("a problem without steps", false, () -> stepless.planner.put(0));
        Desk.due("its empty row", 0, stepless.planner::check);
    }

    /** Steps: 0 makes (p) of not (p), 1 takes it, 2 costs 999. */
    private static Desk switches(String init, String goal) {
        return Desk.ready("(define (domain d) (:predicates (p)) (:action on :parameters () :precondition (not (p)) :effect (p)) (:action"
            + " off :parameters () :precondition (p) :effect (not (p))) (:action rest :parameters () :effect (increase (total-cost)"
            + " 999)))", "(define (problem q) (:domain d) (:objects x) (:init " + init + ") (:goal " + goal + "))");
    }

    private static void check() {
        Desk.sentence("12: its cost, if it is a plan; -1 - k if step k (from 0) can't be done, -100 if all can but the goal does not hold.");
        Desk desk = switches("", "(p)");
        desk.dueCheck(1, 0);
        desk.dueCheck(-1, 1);
        desk.dueCheck(-1, 1, 0);
        desk.dueCheck(-2, 0, 0);
        desk.dueCheck(-2, 0, 0, 0);
        desk.dueCheck(-100, 0, 1);
        desk.dueCheck(1000, 2, 0);
        int[] long60 = new int[60];
        for (int k = 0; k < 60; k++) {
            long60[k] = 2;
        }
        desk.dueCheck(-100, long60);
        long60[59] = 0;
        desk.dueCheck(59 * 999 + 1, long60);
        long60[59] = 1;
        desk.dueCheck(-60, long60);
        long60[58] = 1;
        desk.dueCheck(-59, long60);
        Desk.sentence("12: an empty row");
        desk.dueCheck(-100);
        switches("(p)", "(p)").dueCheck(0);
        switches("", "(not (p))").dueCheck(0);
        switches("", "(= x x)").dueCheck(0);
        switches("", "(not (= x x))").dueCheck(-100);
    }

    private static void checkedRow() {
        Desk.sentence("12: Checks the row from the first state, and it is empty then");
        Desk desk = switches("", "(p)");
        desk.dueCheck(1, 0);
        desk.dueCheck(-100);
        desk.dueCheck(1, 0);
        desk.dueCheck(-2, 0, 0, 1);
        desk.dueCheck(-100);
        desk.dueCheck(-100, 2);
        desk.dueCheck(1, 0);
        Desk.sentence("12: (A problem that is read makes the row empty, too.)");
        desk.planner.put(0);
        desk.problem("(define (problem q) (:domain d) (:objects x) (:init) (:goal (p)))");
        desk.dueCheck(-100);
        desk.planner.put(0);
        desk.problem("oops");
        desk.problem("(define (problem q) (:domain d) (:objects x) (:init (p)) (:goal (p)))");
        desk.dueCheck(0);
        desk.dueCheck(-1, 0);
    }

    private static void refusedCheck() {
        Desk.sentence("12: IllegalStateException: there is no problem.");
        Desk desk = new Desk();
        Desk.due("a new object", ISE, desk.planner::check);
        desk.domain(DOMAIN);
        Desk.due("behind a domain", ISE, desk.planner::check);
        desk.problem("oops");
        Desk.due("behind a fault", ISE, desk.planner::check);
    }

    private static void dueEstimates(Desk desk, int greatest, int sum) {
        Desk.due("greatest", greatest, () -> desk.planner.estimate(0));
        Desk.due("sum", sum, () -> desk.planner.estimate(1));
    }

    private static void estimate() {
        Desk.sentence("13: 0 if it is in the state, else the least, over the steps by which it comes, of the step's cost and the greatest"
            + " (the sum) of what its atoms without not cost (0 if it has none).");
        dueEstimates(switches("(p)", "(p)"), 0, 0);
        dueEstimates(switches("", "(p)"), 1, 1);
        dueEstimates(switches("(p)", "(not (p))"), 0, 0);
        String domain = "(define (domain d) (:predicates (p) (q) (r) (s)) (:action a :parameters () :effect (and (p) (increase"
            + " (total-cost) 7))) (:action b :parameters () :precondition (not (p)) :effect (and (q) (not (p)) (increase"
            + " (total-cost) 5))) (:action c :parameters () :precondition (and (p) (q) (not (s))) :effect (and (r) (increase"
            + " (total-cost) 2))) (:action e :parameters () :precondition (q) :effect (and (r) (increase (total-cost) 8))))";
        String problem = "(define (problem q) (:domain d) (:objects x) (:init) (:goal ";
        // r: 2 + 7 or 8 + 5 by the greatest, 2 + 12 or 8 + 5 by the sum.
        dueEstimates(Desk.ready(domain, problem + "(r)))"), 9, 13);
        dueEstimates(Desk.ready(domain, problem + "(and (r) (p) (not (q)))))"), 9, 20);
        dueEstimates(Desk.ready(domain, problem.replace("(:init)", "(:init (q))") + "(and (q) (r))))"), 8, 8);
        Desk.sentence("13: -1 if one of them can't come so");
        dueEstimates(Desk.ready(domain, problem + "(s)))"), -1, -1);
        dueEstimates(Desk.ready(domain, problem + "(and (r) (s))))"), -1, -1);
        dueEstimates(Desk.ready(domain, problem + "(and (s) (r))))"), -1, -1);
        dueEstimates(Desk.ready(domain, problem + "(and (r) (not (s)))))"), 9, 13);
        Desk hopeless = Desk.ready(DOMAIN, HOPELESS);
        dueEstimates(hopeless, 1, 1);
    }

    /** Three atoms of each object, those of the next one by all three: the sum of the last one's is 27 + 9 + 3 + 1 times 830. */
    private static String steep(String last) {
        String three = ":effect(and(a ?y)(b ?y)(c ?y)(increase(total-cost)830)))";
        return "(define(domain d)(:types i l)(:predicates(a ?x)(b ?x)(c ?x)(n ?x ?y)(z))(:action r :parameters(?y - i)" + three
            + "(:action s :parameters(?x ?y):precondition(and(n ?x ?y)(a ?x)(b ?x)(c ?x))" + three
            + "(:action t :parameters(?x - l)" + last + "))";
    }

    private static void estimateBound() {
        Desk.sentence("13: at most 100000 is told.");
        String problem = "(define (problem q) (:domain d) (:objects w - i x y z - l) (:init (n w x) (n x y) (n y z)) (:goal ";
        for (int cost : new int[] {398, 399, 400, 401, 999}) {
            int told = Math.min(100000, 99600 + cost);
            String free = steep(":effect(and(z)(increase(total-cost)" + cost + "))");
            dueEstimates(Desk.ready(free, problem + "(and (a z) (b z) (c z) (z))))"), 4 * 830, told);
            // The same sum of one step.
            String bound = steep(":precondition(and(a ?x)(b ?x)(c ?x)):effect(and(z)(increase(total-cost)" + cost + "))");
            Desk one = Desk.ready(bound, problem + "(z)))");
            dueEstimates(one, 4 * 830 + cost, told);
            dueEstimates(Desk.ready(bound, problem + "(and (z) (a w))))"), 4 * 830 + cost, Math.min(100000, told + 830));
        }
        String twice = steep(":precondition(and(a ?x)(b ?x)(c ?x)):effect(and(z)(increase(total-cost)999))");
        dueEstimates(Desk.ready(twice, problem + "(and (z) (a z) (b z) (c z))))"), 4319, 100000);
    }

    private static void refusedEstimate() {
        Desk.sentence("13: IllegalStateException: there is no problem; IllegalArgumentException: no such what.");
        Desk desk = new Desk();
        for (int what = -1; what <= 2; what++) {
            int w = what;
            Desk.due("a new object, what " + w, ISE, () -> desk.planner.estimate(w));
        }
        desk.domain(DOMAIN);
        Desk.due("behind a domain", ISE, () -> desk.planner.estimate(0));
        desk.problem(PROBLEM);
        Desk.due("what -1", IAE, () -> desk.planner.estimate(-1));
        Desk.due("what 0", 1, () -> desk.planner.estimate(0));
        Desk.due("what 1", 1, () -> desk.planner.estimate(1));
        Desk.due("what 2", IAE, () -> desk.planner.estimate(2));
        for (int what : FAR) {
            Desk.due("what " + what, IAE, () -> desk.planner.estimate(what));
        }
        desk.problem("oops");
        Desk.due("behind a fault", ISE, () -> desk.planner.estimate(0));
    }

    private static void manyCalls() {
        Desk.sentence("An object is used for at most 512 calls after it has been made");
        Desk desk = counter("(and(m)(b c)(i))");
        for (int k = 0; k < 512; k++) {
            Desk.due("plan", 200, () -> desk.planner.plan(200));
            Desk.due("estimate", true, () -> desk.planner.estimate(1) > 0);
        }
    }
}
