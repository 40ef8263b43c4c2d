/** Promises 1 to 5: a new object, text, domain, problem, fault. */
public final class ReadingTest {
    private static final String ISE = "IllegalStateException";
    private static final String IAE = "IllegalArgumentException";
    private static final String UOE = "UnsupportedOperationException";
    private static final String NSE = "NoSuchElementException";
    private static final String IOB = "IndexOutOfBoundsException";

    private static final String DOMAIN = "(define (domain d) (:predicates (p)) (:action a :parameters () :effect (p)))";
    private static final String PROBLEM = "(define (problem q) (:domain d) (:objects x) (:init) (:goal (p)))";

    public static void main(String[] args) {
        newObject();
        texts();
        textLimits();
        domains();
        domainForm();
        domainCounts();
        domainNames();
        domainTypes();
        conditions();
        effects();
        keywordsAsNames();
        problems();
        problemForm();
        problemNames();
        problemLimits();
        whatIsForgotten();
        Desk.end("ReadingTest");
    }

    private static void newObject() {
        CheapPlanner x = new CheapPlanner();
        Desk.due("fault", 0, x::fault);
        Desk.due("problem", ISE, x::problem);
        Desk.due("plan", ISE, () -> x.plan(1));
        Desk.due("plan", ISE, () -> x.plan(0));
        Desk.due("steps", NSE, x::steps);
        Desk.due("step", NSE, () -> x.step(0));
        Desk.due("ground", NSE, () -> x.ground(0, 9));
        Desk.due("letter", IOB, () -> x.letter(0));
        Desk.due("put", false, () -> x.put(0));
        Desk.due("check", ISE, x::check);
        Desk.due("estimate", ISE, () -> x.estimate(7));
        Desk.due("domain", IAE, x::domain);
        Desk.due("fault", 1, x::fault);
    }

    private static int word(String four) {
        int number = 0;
        for (int i = 0; i < four.length(); i++) {
            number = number << 8 | four.charAt(i);
        }
        return number;
    }

    private static void texts() {
        Desk desk = new Desk();
        CheapPlanner x = desk.planner;
        Desk.due("no character", true, () -> x.text(0, 0, 0, 0, 0));
        Desk.due("code 31", false, () -> x.text(word("(def"), 31, 0, 0, 0));
        Desk.due("code 127", false, () -> x.text(word("(def"), 0, 0, 0, 127));
        Desk.due("code 128", false, () -> x.text(0x80202020, 0, 0, 0, 0));
        Desk.due("code 255", false, () -> x.text(-1, 0, 0, 0, 0));
        Desk.due("code 10", false, () -> x.text(word("(\n"), 0, 0, 0, 0));
        // Nothing came so far: the place of the fault is the text's length.
        Desk.due("codes 32 and 126", true, () -> x.text(0x20007E20, 0, 0x20, 0, 0x20000000));
        Desk.due("domain", IAE, x::domain);
        Desk.due("fault", 11, x::fault);
        Desk.due("blanks", true, () -> x.text(0x20202020, 0x20, 0, 0x00200000, 0));
        Desk.due("domain", IAE, x::domain);
        Desk.due("fault", 61, x::fault);
        Desk.due("order", true, () -> x.text(word("(def"), word("ine"), word("(do") << 8, word("main"), word(" d )")));
        Desk.due("domain", IAE, x::domain);
        Desk.due("fault", 181, x::fault);
    }

    private static void textLimits() {
        Desk desk = new Desk();
        CheapPlanner x = desk.planner;
        int four = 0x20202020;
        Desk.due("599 blanks", true, () -> desk.type(" ".repeat(599)));
        Desk.due("two more", false, () -> x.text(0x2020, 0, 0, 0, 0));
        Desk.due("twenty more", false, () -> x.text(four, four, four, four, four));
        Desk.due("one more", true, () -> x.text(0, 0, 0x2000, 0, 0));
        Desk.due("another", false, () -> x.text(0, 0, 0, 0, 0x20));
        Desk.due("none", true, () -> x.text(0, 0, 0, 0, 0));
        Desk.due("domain", IAE, x::domain);
        Desk.due("fault", 6001, x::fault);
        Desk.due("room again", true, () -> x.text(four, 0, 0, 0, 0));
        Desk.due("domain", IAE, x::domain);
        Desk.due("fault", 41, x::fault);
        desk.dueDomain(1, 0, DOMAIN + " ".repeat(600 - DOMAIN.length()));
        Desk.due("600 parentheses", true, () -> desk.type("(".repeat(600)));
        Desk.due("domain", IAE, x::domain);
        Desk.due("fault", 11, x::fault);
    }

    private static String action(String name) {
        return "(:action " + name + " :parameters () :effect (p))";
    }

    private static void domains() {
        Desk desk = new Desk();
        desk.dueDomain(1, 0, DOMAIN);
        desk.dueDomain(1, 0, "  ( define(domain   d)(:predicates(p))( :action a :parameters()  :effect(p) )  ) ");
        desk.dueDomain(5, 0, "(define (domain d123x6) (:predicates (p))" + action("a") + action("b") + action("c")
            + action("d") + action("e") + ")");
        desk.dueDomain(1, 0, "(define (domain 0) (:types a b c d) (:predicates (p ?x - a ?y - d) (q ?x ?y - b) (r ?y - c ?x)"
            + " (s) (t ?x) (u ?abcdef ?123456)) (:action a :parameters (?x - a ?y ?z - d) :effect (p ?x ?z)))");
    }

    private static void domainForm() {
        Desk desk = new Desk();
        String[] marked = {
            "^", "^)", "^define (domain d)", "(^defin (domain d)", "(define^", "(define    ^", "(define ^domain d)",
            "(define (^problem d)", "(define (domain ^)", "(define (domain ^D)", "(define (domain ^abcdefg)",
            "(define (domain ^?d)", "(define (domain ^a-b)", "(define (domain d ^e)", "(define (domain d) ^)",
            "(define (domain d) (^:action a", "(define (domain d) (:types ^) (:predicates (p))",
            "(define (domain d) (:types ^T)", "(define (domain d) (:types a) (^:types b)",
            "(define (domain d) (:types a ^- b)", "(define (domain d) (:types a) ^)",
            "(define (domain d) (:predicates ^)", "(define (domain d) (:predicates ^p)",
            "(define (domain d) (:predicates (^)", "(define (domain d) (:predicates (^?x))",
            "(define (domain d) (:predicates (^=))", "(define (domain d) (:predicates (p ^x))",
            "(define (domain d) (:predicates (p ^?))", "(define (domain d) (:predicates (p ^?X))",
            "(define (domain d) (:predicates (p ^?1234567))", "(define (domain d) (:predicates (p ^?x-t))",
            "(define (domain d) (:predicates (p ^- t))", "(define (domain d) (:types t) (:predicates (p ?x - ^))",
            "(define (domain d) (:types t) (:predicates (p ?x - ^?t))",
            "(define (domain d) (:types t) (:predicates (p ?x - t ^- t))",
            "(define (domain d) (:types t) (:predicates (p ?x - t ?y - t ^- t))",
            "(define (domain d) (:predicates (p)) ^)", "(define (domain d) (:predicates (p)) (^:predicates (q))",
            "(define (domain d) (:predicates (p)) (:action ^:parameters",
            "(define (domain d) (:predicates (p)) (:action a ^:effect (p))",
            "(define (domain d) (:predicates (p)) (:action a :parameters ^:effect",
            "(define (domain d) (:predicates (p)) (:action a :parameters (^(",
            "(define (domain d) (:predicates (p)) (:action a :parameters () ^)",
            "(define (domain d) (:predicates (p)) (:action a :parameters () ^:goal (p)",
            "(define (domain d) (:predicates (p)) (:action a :parameters () :precondition ^:effect",
            "(define (domain d) (:predicates (p)) (:action a :parameters () :precondition (p) ^)",
            "(define (domain d) (:predicates (p)) (:action a :parameters () :precondition (p) ^:precondition (p)",
            "(define (domain d) (:predicates (p)) (:action a :parameters () :effect (p) ^:effect (p)",
            "(define (domain d) (:predicates (p)) (:action a :parameters () :effect (p) ^:precondition (p)",
            "(define (domain d) (:predicates (p)) (:action a :parameters () :effect (p)) ^a",
            DOMAIN + "^)", DOMAIN + "  ^x", DOMAIN.substring(0, DOMAIN.length() - 1) + "   ^",
        };
        for (String text : marked) {
            desk.dueDomainFault(1, text);
        }
        for (int end = 0; end < DOMAIN.length(); end++) {
            String begun = DOMAIN.substring(0, end);
            Desk other = new Desk();
            Desk.due("domain of " + begun, IAE, () -> other.domain(begun));
        }
    }

    /** One too many of everything that is counted. */
    private static void domainCounts() {
        Desk desk = new Desk();
        String four = action("a") + action("b") + action("c") + action("d");
        desk.dueDomainFault(1, "(define (domain d) (:predicates (p))" + four + action("e") + "^" + action("f") + ")");
        desk.dueDomainFault(1, "(define (domain d) (:types a b c d ^e) (:predicates (p))" + four + ")");
        desk.dueDomainFault(1, "(define (domain d) (:types a b c d ^a) (:predicates (p))" + four + ")");
        desk.dueDomainFault(1, "(define (domain d) (:predicates (a) (b) (c) (d) (e) (f) ^(g)) " + four + ")");
        desk.dueDomainFault(1, "(define (domain d) (:predicates (a ?x ?y ^?z)) " + four + ")");
        desk.dueDomainFault(1, "(define (domain d) (:predicates (a ?x ?y ^?x)) " + four + ")");
        desk.dueDomainFault(1, "(define (domain d) (:predicates (p)) (:action a :parameters (?a ?b ?c ^?d) :effect (p)))");
        desk.dueDomainFault(1, "(define (domain d) (:predicates (p)) (:action a :parameters ()"
            + " :precondition (and (p) (p) (p) (p) ^(p)) :effect (p)))");
        desk.dueDomainFault(1, "(define (domain d) (:predicates (p)) (:action a :parameters ()"
            + " :effect (and (p) (p) (p) (p) ^(increase (total-cost) 1))))");
        desk.dueDomain(1, 0, "(define (domain d) (:predicates (p)) (:action a :parameters () :precondition"
            + " (and (p) (p) (p) (p)) :effect (and (p) (p) (p) (increase (total-cost) 1))))");
    }

    private static void domainNames() {
        Desk desk = new Desk();
        desk.dueDomainFault(2, "(define (domain d) (:types a b ^a) (:predicates (p))" + action("a") + ")");
        desk.dueDomainFault(2, "(define (domain d) (:predicates (p ?x) (^p)) (");
        desk.dueDomainFault(2, "(define (domain d) (:predicates (p ?x ^?x)) (");
        desk.dueDomainFault(2, "(define (domain d) (:predicates (p))" + action("a") + "(:action ^a oops");
        desk.dueDomainFault(2, "(define (domain d) (:predicates (p)) (:action a :parameters (?x ?y ^?x)");
        desk.dueDomainFault(3, "(define (domain d) (:predicates (p ?x - ^t)) (");
        desk.dueDomainFault(3, "(define (domain d) (:types t) (:predicates (p ?x - t ?y - ^p)) (");
        desk.dueDomainFault(3, "(define (domain d) (:types t) (:predicates (p)) (:action a :parameters (?x - ^u) (");
        desk.dueDomainFault(3, "(define (domain d) (:predicates (p)) (:action a :parameters () :effect (^q))))");
        desk.dueDomainFault(3, "(define (domain d) (:predicates (p)) (:action a :parameters () :effect (^a))))");
        desk.dueDomainFault(3, "(define (domain d) (:predicates (p ?x)) (:action a :parameters (?y) :effect (p ^?x))))");
        desk.dueDomainFault(3, "(define (domain d) (:predicates (p ?x)) (:action a :parameters (?y) :effect (p ?y))"
            + " (:action b :parameters () :effect (p ^?y))))");
        desk.dueDomainFault(3, "(define (domain d) (:predicates (p)) (:action a :parameters (?x)"
            + " :precondition (= ?x ^?y) :effect (p))))");
        // The same name in several kinds is none that was told before.
        desk.dueDomain(1, 0, "(define (domain a) (:types a) (:predicates (a ?a - a)) (:action a :parameters (?a - a)"
            + " :effect (a ?a)))");
        desk.dueDomain(2, 0, "(define (domain d) (:predicates (p ?x) (q ?x)) (:action a :parameters (?x) :effect (p ?x))"
            + "(:action b :parameters (?x) :effect (q ?x)))");
    }

    private static void domainTypes() {
        Desk desk = new Desk();
        String begin = "(define (domain d) (:types t u) (:predicates (p ?x - t) (q ?x) (r ?x ?y - u)) (:action a :parameters"
            + " (?t - t ?u - u ?v) ";
        desk.dueDomainFault(4, begin + ":effect (p ^?u)))");
        desk.dueDomainFault(4, begin + ":effect (p ^?v)))");
        desk.dueDomainFault(4, begin + ":effect (r ?u ^?t)))");
        desk.dueDomainFault(4, begin + ":precondition (not (p ^?v)) :effect (p ?t)))");
        desk.dueDomainFault(4, begin + ":effect (and (not (p ^?u)) (p ?u))))");
        desk.dueDomainFault(3, begin + ":effect (p ^?w)))");
        desk.dueDomainFault(1, begin + ":effect (p ^w)))");
        desk.dueDomainFault(1, begin + ":effect (p ?t ^?u)))");
        desk.dueDomainFault(1, begin + ":effect (r ?t ^)))");
        desk.dueDomain(1, 0, begin + ":precondition (and (q ?t) (q ?v) (r ?t ?u) (= ?t ?u)) :effect (and (p ?t) (r ?v ?u))))");
    }

    private static void conditions() {
        Desk desk = new Desk();
        String begin = "(define (domain d) (:predicates (p) (q ?x)) (:action a :parameters (?x ?y) :precondition ";
        String end = " :effect (p)))";
        String[] good = {
            "(p)", "(not (p))", "(q ?x)", "(= ?x ?y)", "(= ?x ?x)", "(not (= ?x ?y))", "(and (p))", "(and (not (p)))",
            "(and (p) (not (q ?x)) (= ?x ?y) (not (= ?y ?x)))",
        };
        for (String condition : good) {
            desk.dueDomain(1, 0, begin + condition + end);
        }
        String[] bad = {
            "(^)", "^p", "(and ^)", "(and ^p)", "(^(p))", "(and (^(p)))", "(not ^)", "(not ^p)", "(not (^))", "(not (p) ^(p))",
            "(= ^)", "(= ?x ^)", "(= ?x ?y ^?x)", "(= ^x ?y)", "(not (= ?x ?y) ^?x", "(^increase (total-cost) 1)",
            "(and (p) ^p)", "(p ^?x)", "(q ^)", "(q ^(p))", "(q ^x)", "(^P)", "(and (p) (p)) ^)", "(^==", "(not (^?x))",
        };
        for (String condition : bad) {
            desk.dueDomainFault(1, begin + condition + end);
        }
        desk.dueDomainFault(3, begin + "(and (^and (p)))" + end);
        desk.dueDomainFault(3, begin + "(not (^not (p)))" + end);
        desk.dueDomainFault(3, begin + "(not (^and (p)))" + end);
    }

    private static void effects() {
        Desk desk = new Desk();
        String begin = "(define (domain d) (:predicates (p) (q ?x)) (:action a :parameters (?x ?y) :effect ";
        String[] good = {
            "(p)", "(not (p))", "(increase (total-cost) 1)", "(increase (total-cost) 999)", "(increase (total-cost) 007)",
            "(and (increase (total-cost) 10))", "(and (q ?x) (not (q ?x)) (increase (total-cost) 10) (p))",
        };
        for (String effect : good) {
            desk.dueDomain(1, 0, begin + effect + "))");
        }
        String[] bad = {
            "(^)", "(and ^)", "(^= ?x ?y)", "(not (^= ?x ?y))", "(not (^increase (total-cost) 1))", "(increase ^total-cost 1)",
            "(increase (^total) 1)", "(increase (total-cost ^1))", "(increase (total-cost) ^)", "(increase (total-cost) ^0)",
            "(increase (total-cost) ^000)", "(increase (total-cost) ^1000)", "(increase (total-cost) ^0001)",
            "(increase (total-cost) ^-1)", "(increase (total-cost) ^x)", "(increase (total-cost) ^1x)",
            "(increase (total-cost) ^?1)", "(increase (total-cost) ^(1))", "(increase (total-cost) 1 ^1)",
            "(increase (total-cost) ^1.5)", "(^increas (total-cost) 1)",
        };
        for (String effect : bad) {
            desk.dueDomainFault(1, begin + effect + "))");
        }
        desk.dueDomainFault(5, begin + "(and (increase (total-cost) 1) (^increase (total-cost) 1))))");
        desk.dueDomainFault(5, begin + "(and (increase (total-cost) 1) (p) (^increase oops");
        desk.dueDomainFault(3, begin + "(and (^and (p)))))");
        desk.dueDomain(2, 0, begin + "(increase (total-cost) 1)) (:action b :parameters () :effect (increase (total-cost) 2)))");
    }

    private static void keywordsAsNames() {
        Desk desk = new Desk();
        String begin = "(define (domain domain) (:types define) (:predicates (and ?x) (not)) (:action and :parameters (?not) ";
        desk.dueDomain(1, 0, begin + ":precondition (and (and ?not)) :effect (and (and ?not))))");
        desk.dueDomain(1, 0, begin + ":precondition (and (not (not)) (not (and ?not))) :effect (not (not))))");
        desk.dueDomainFault(1, begin + ":precondition (and ^?not) :effect (not (not))))");
        desk.dueDomainFault(1, begin + ":precondition (not ^) :effect (not (not))))");
        desk.dueDomainFault(1, begin + ":precondition (not (not ^(not))) :effect (not (not))))");
        desk.dueDomainFault(1, begin + ":effect (and ^?not)))");
        desk.dueDomain(1, 0, begin + ":effect (not (and ?not))))");
        desk.dueProblem(1, 0, "(define (problem not) (:domain domain) (:objects and) (:init (and and) (not))"
            + " (:goal (and (and and) (not (and and)) (= and and))))");
    }

    private static void problems() {
        Desk desk = new Desk();
        desk.dueDomain(1, 0, DOMAIN);
        desk.dueProblem(1, 0, PROBLEM);
        desk.dueProblem(1, 0, "(define(problem 1)(:domain d)(:objects a b c d e f)(:init(p)(p)(p)(p)(p)(p)(p)(p)(p)(p)(p)(p))"
            + "(:goal(and(not(p))(not(= a b))(= a a)(p))))");
        desk.dueDomain(3, 0, "(define (domain w) (:types t u) (:predicates (p ?x - t) (q ?x))"
            + "(:action a :parameters (?x - t) :effect (p ?x)) (:action b :parameters (?x ?y - u) :precondition"
            + " (not (= ?x ?y)) :effect (q ?x)) (:action c :parameters (?x ?y ?z) :precondition (= ?x ?y) :effect (q ?z)))");
        // a 2 of t; b 4 * 1 but for the one that is the same; c 4 * 4.
        desk.dueProblem(21, 0, "(define (problem q) (:domain w) (:objects a - t b - u c d - t) (:init (p a) (q c))"
            + " (:goal (and (p d) (q a))))");
        desk.dueProblem(1, 0, "(define (problem q) (:domain w) (:objects a) (:init) (:goal (q a)))");
    }

    private static void problemForm() {
        Desk desk = new Desk();
        desk.dueDomain(1, 0, "(define (domain d) (:types t) (:predicates (p) (q ?x)) (:action a :parameters () :effect (p)))");
        String begin = "(define (problem q) (:domain d) (:objects x y) (:init) (:goal ";
        String[] marked = {
            "^", "(define (^domain q)", "(define (problem ^?q)", "(define (problem q) ^)", "(define (problem q) (^:objects",
            "(define (problem q) (:domain ^)", "(define (problem q) (:domain ^D)", "(define (problem q) (:domain d ^d)",
            "(define (problem q) (:domain d) (^:init)", "(define (problem q) (:domain d) (:objects ^)",
            "(define (problem q) (:domain d) (:objects ^?x)", "(define (problem q) (:domain d) (:objects x ^?x)",
            "(define (problem q) (:domain d) (:objects x - ^)", "(define (problem q) (:domain d) (:objects x - t ^- t)",
            "(define (problem q) (:domain d) (:objects a b c d e f ^g)",
            "(define (problem q) (:domain d) (:objects a b c d e f - t ^a)",
            "(define (problem q) (:domain d) (:objects x) (:init ^x)",
            "(define (problem q) (:domain d) (:objects x) (:init (^= x x))",
            "(define (problem q) (:domain d) (:objects x) (:init (q ^?x))",
            "(define (problem q) (:domain d) (:objects x) (:init (q x ^x))",
            "(define (problem q) (:domain d) (:objects x) (:init (q ^))",
            "(define (problem q) (:domain d) (:objects x) (:init (p)(p)(p)(p)(p)(p)(p)(p)(p)(p)(p)(p)^(p))",
            "(define (problem q) (:domain d) (:objects x) (:init) ^)",
            begin + "^)))", begin + "(^))))", begin + "(and ^))))", begin + "(p) ^(p))))", begin + "(and (p)(p)(p)(p)^(p)",
            begin + "(q ^?x))))", begin + "(= x ^?y)", begin + "(^increase (total-cost) 1)", begin + "(p)) ^(", begin + "(p)))^)",
        };
        for (String text : marked) {
            desk.dueProblemFault(1, text);
        }
        for (int end = 0; end < PROBLEM.length(); end++) {
            String begun = PROBLEM.substring(0, end);
            Desk other = new Desk();
            other.domain(DOMAIN);
            Desk.due("problem of " + begun, IAE, () -> other.problem(begun));
        }
    }

    private static void problemNames() {
        Desk desk = new Desk();
        desk.dueDomain(1, 0, "(define (domain d) (:types t u) (:predicates (p) (q ?x - t) (r ?x ?y - u))"
            + " (:action a :parameters () :effect (p)))");
        String begin = "(define (problem q) (:domain d) (:objects x - t y - u z) ";
        desk.dueProblemFault(2, "(define (problem q) (:domain d) (:objects x - t ^x - u)");
        desk.dueProblemFault(3, "(define (problem q) (:domain ^e) (:objects x)");
        desk.dueProblemFault(3, "(define (problem q) (:domain ^dd) (:objects x)");
        desk.dueProblemFault(3, "(define (problem q) (:domain d) (:objects x - ^v)");
        desk.dueProblemFault(3, begin + "(:init (^s))");
        desk.dueProblemFault(3, begin + "(:init (^not (p)))");
        desk.dueProblemFault(3, begin + "(:init (q ^t))");
        desk.dueProblemFault(4, begin + "(:init (q ^y))");
        desk.dueProblemFault(4, begin + "(:init (q ^z))");
        desk.dueProblemFault(4, begin + "(:init (r x ^x))");
        desk.dueProblemFault(4, begin + "(:init) (:goal (not (q ^y)))");
        desk.dueProblemFault(3, begin + "(:init) (:goal (= x ^w))");
        desk.dueProblem(1, 0, begin + "(:init (q x) (r z y) (r y y)) (:goal (and (r x y) (= x y))))");
    }

    private static String objects(int count) {
        return "(define (problem q) (:domain d) (:objects" + " a b c d e f".substring(0, 2 * count) + ") (:init) (:goal (p)))";
    }

    private static void problemLimits() {
        Desk desk = new Desk();
        String[] names = {"q", "r", "s", "t", "u"};
        StringBuilder binary = new StringBuilder("(define (domain d) (:predicates (p)");
        StringBuilder exact = new StringBuilder(binary);
        for (String name : names) {
            binary.append("(").append(name).append(" ?x ?y)");
            exact.append("(").append(name).append(name.equals("u") ? " ?x)" : " ?x ?y)");
        }
        // 1 + 5 * 9 facts with three objects; 1 + 4 * 9 + 3 make forty; 1 + 4 * 4 + 2 with two.
        desk.dueDomain(1, 0, binary + ") (:action a :parameters () :effect (p)))");
        desk.dueProblem(1, 0, objects(2));
        desk.dueProblem(UOE, 0, objects(3));
        Desk.due("no problem is left", false, () -> desk.planner.put(0));
        Desk.due("no problem is left", ISE, () -> desk.planner.plan(1));
        desk.dueDomain(1, 0, exact + ") (:action a :parameters () :effect (p)))");
        desk.dueProblem(1, 0, objects(3));
        desk.dueProblem(UOE, 0, objects(4));
        desk.dueProblem(1, 0, objects(1));
        Desk.due("a fault is told no more", 0, desk.planner::fault);
        // 36 + 4 steps, then 36 + 5.
        String pairs = "(define (domain d) (:predicates (p)) (:action a :parameters (?x ?y) :effect (p))";
        String empty = " :parameters () :effect (p))";
        String four = "(:action b" + empty + "(:action c" + empty + "(:action e" + empty + "(:action f" + empty;
        desk.dueDomain(5, 0, pairs + four + ")");
        desk.dueProblem(40, 0, objects(6));
        desk.dueDomain(2, 0, pairs + "(:action b :parameters (?x) :effect (p)))");
        desk.dueProblem(UOE, 0, objects(6));
        desk.dueProblem(30, 0, objects(5));
        // 36 + 2 + 3 steps, those of a type among them.
        String types = pairs.replace("(:predicates", "(:types t) (:predicates") + "(:action g :parameters (?x - t) :effect (p))";
        desk.dueDomain(5, 0, types + four.substring(0, four.lastIndexOf("(:action")) + ")");
        desk.dueProblem(UOE, 0, objects(6).replace("e f", "e - t f - t"));
        desk.dueProblem(40, 0, objects(6).replace("e f", "e - t f"));
        // 36 + 4 facts, then 36 + 5.
        String square = "(define (domain d) (:predicates (p) (q ?x ?y) (r) (s) (t)";
        desk.dueDomain(1, 0, square + ") (:action a :parameters () :effect (p)))");
        desk.dueProblem(1, 0, objects(6));
        desk.dueDomain(1, 0, square + " (u)) (:action a :parameters () :effect (p)))");
        desk.dueProblem(UOE, 0, objects(6));
        // Of 216 ways 36 are steps.
        desk.dueDomain(1, 0, "(define (domain d) (:predicates (p)) (:action a :parameters (?x ?y ?z) :precondition (= ?x ?z)"
            + " :effect (p)))");
        desk.dueProblem(36, 0, objects(6));
        desk.dueDomain(1, 0, "(define (domain d) (:types t) (:predicates (p)) (:action a :parameters (?x - t) :effect (p)))");
        desk.dueProblem(0, 0, objects(6));
    }

    private static void whatIsForgotten() {
        Desk desk = new Desk();
        CheapPlanner x = desk.planner;
        desk.type("(define");
        Desk.due("no domain", ISE, x::problem);
        Desk.due("no fault then", 0, x::fault);
        Desk.due("the text stays", IAE, x::domain);
        Desk.due("its length", 71, x::fault);
        Desk.due("no domain", ISE, x::problem);
        Desk.due("the fault stays", 71, x::fault);
        desk.dueDomain(1, 0, DOMAIN);
        desk.dueProblem(1, 0, PROBLEM);
        Desk.due("plan", 1, () -> x.plan(9));
        Desk.due("put", true, () -> x.put(0));
        desk.dueProblem(1, 0, PROBLEM);
        Desk.due("no plan of the new problem", NSE, x::steps);
        Desk.due("no letter either", IOB, () -> x.letter(0));
        Desk.due("an empty row", -100, x::check);
        Desk.due("plan", 1, () -> x.plan(9));
        desk.dueProblemFault(1, "^)");
        Desk.due("no problem behind a fault", ISE, () -> x.plan(9));
        Desk.due("no plan", NSE, x::steps);
        Desk.due("no step", NSE, () -> x.ground(0, 0));
        desk.dueProblem(1, 0, PROBLEM);
        desk.dueDomain(1, 0, DOMAIN);
        Desk.due("no problem behind a domain", ISE, x::check);
        Desk.due("nor an estimate", ISE, () -> x.estimate(0));
        desk.dueProblem(1, 0, PROBLEM);
        Desk.due("plan", 1, () -> x.plan(9));
        desk.dueDomain(2, 0, "(define (domain d) (:types t) (:predicates (p) (q ?x)) (:action a :parameters (?x ?y) :precondition"
            + " (and (p) (= ?x ?y)) :effect (increase (total-cost) 7)) (:action b :parameters (?x - t) :effect (p)))");
        desk.dueDomain(1, 0, DOMAIN);
        desk.dueProblem(1, 0, PROBLEM);
        Desk.due("nothing of another domain is left", 1, () -> x.plan(9));
        desk.dueProblemFault(3, "(define (problem q) (:domain d) (:objects x - ^t) (:init) (:goal (p)))");
        desk.dueProblem(1, 0, PROBLEM);
        desk.dueDomainFault(1, "^");
        Desk.due("no problem behind a faulty domain", ISE, () -> x.plan(9));
        Desk.due("no letter", IOB, () -> x.letter(0));
        Desk.due("no domain", ISE, x::problem);
    }
}
