/** Each sentence of the document's terms that names a boundary: at it, below it and beyond it. */
public final class TermEdgesTest {
    private static final String ISE = "IllegalStateException";
    private static final String IAE = "IllegalArgumentException";
    private static final int FORM = 1;
    private static final int NEW = 2;
    private static final int UNKNOWN = 3;
    private static final int TYPE = 4;
    private static final int TWICE = 5;

    private static final String DOMAIN = "(define (domain d) (:predicates (p)) (:action a :parameters () :effect (p)))";
    private static final String PROBLEM = "(define (problem q) (:domain d) (:objects x) (:init) (:goal (p)))";

    public static void main(String[] args) {
        textLength();
        textCodes();
        tokens();
        nameLength();
        nameCharacters();
        variables();
        types();
        predicates();
        actions();
        predicateParameters();
        parameterTypes();
        actionParameters();
        leftOut();
        conditions();
        literals();
        terms();
        effects();
        costs();
        keywords();
        objects();
        init();
        goal();
        places();
        firstFault();
        numbersInOrder();
        form();
        newNames();
        unknownNames();
        fittingTypes();
        twice();
        equality();
        problemOfADomain();
        fittingObjects();
        orderOfSteps();
        noSteps();
        firstState();
        doing();
        stepCost();
        plans();
        ties();
        Desk.end("TermEdgesTest");
    }

    /** The text, so that it has so many characters, the last of which is its own last one. */
    private static String stretched(String text, int length) {
        int last = text.length() - 1;
        return text.substring(0, last) + " ".repeat(length - text.length()) + text.substring(last);
    }

    /** So many of the parts, from the first on. */
    private static String first(int count, String... parts) {
        StringBuilder all = new StringBuilder();
        for (int i = 0; i < count; i++) {
            all.append(parts[i]);
        }
        return all.toString();
    }

    private static void textLength() {
        Desk.sentence("THE TEXT has at most 600 characters");
        for (int length : new int[] {DOMAIN.length(), 599, 600}) {
            Desk desk = new Desk();
            Desk.due("type " + length, true, () -> desk.type(stretched(DOMAIN, length)));
            Desk.due("domain of " + length, 1, desk.planner::domain);
            Desk.due("type " + length, true, () -> desk.type(stretched(PROBLEM, length)));
            Desk.due("problem of " + length, 1, desk.planner::problem);
        }
        Desk desk = new Desk();
        Desk.due("type 601", false, () -> desk.type(stretched(DOMAIN, 601)));
        // All but the last parenthesis has come.
        Desk.due("domain", IAE, desk.planner::domain);
        Desk.due("fault", FORM + 6000, desk.planner::fault);
    }

    private static void textCodes() {
        Desk.sentence("(codes 32 .. 126)");
        for (int code = 0; code <= 255; code++) {
            for (int place = 0; place < 20; place++) {
                int[] numbers = new int[5];
                numbers[place / 4] = code << 24 - 8 * (place % 4);
                CheapPlanner x = new CheapPlanner();
                boolean good = code == 0 || code >= 32 && code <= 126;
                Desk.due("code " + code + " at " + place, good,
                    () -> x.text(numbers[0], numbers[1], numbers[2], numbers[3], numbers[4]));
            }
        }
    }

    private static void tokens() {
        Desk.sentence("TOKENS: ( , ) , and WORDS: all characters but blanks and parentheses that follow one another.");
        Desk desk = new Desk();
        desk.dueDomain(1, 0, DOMAIN.replace(" (", "(").replace(") ", ")"));
        desk.dueDomain(1, 0, DOMAIN.replace("(", "  (  ").replace(")", " ) "));
        desk.dueDomain(1, 0, "   " + DOMAIN + "   ");
        desk.dueDomainFault(FORM, "(^de fine (domain d)");
        desk.dueDomainFault(FORM, "(^definex (domain d)");
        desk.dueDomainFault(FORM, "(^define,(domain d)");
        desk.dueDomainFault(FORM, "^" + "x".repeat(600));
        desk.dueDomainFault(FORM, "(^" + "(".repeat(599));
        desk.dueDomainFault(FORM, "^" + ")".repeat(600));
        desk.dueDomainFault(FORM, " ".repeat(599) + "^x");
        desk.dueDomainFault(FORM, " ".repeat(599) + "(^");
    }

    private static String named(String domain, String type, String predicate, String variable, String action) {
        return "(define (domain " + domain + ") (:types " + type + ") (:predicates (" + predicate + " ?" + variable
            + ")) (:action " + action + " :parameters (?" + variable + ") :effect (" + predicate.replace("^", "") + " ?"
            + variable.replace("^", "") + ")))";
    }

    private static void nameLength() {
        Desk.sentence("A NAME is a word of 1 to 6 small letters or digits");
        Desk desk = new Desk();
        for (String name : new String[] {"a", "abcde", "abcdef", "0", "56789", "456789", "a1b2c3"}) {
            desk.dueDomain(1, 0, named(name, name, name, name, name));
            desk.dueProblem(1, 0, "(define (problem " + name + ") (:domain " + name + ") (:objects " + name + " - " + name
                + ") (:init (" + name + " " + name + ")) (:goal (" + name + " " + name + ")))");
        }
        String seven = "^abcdefg";
        desk.dueDomainFault(FORM, named(seven, "a", "a", "a", "a"));
        desk.dueDomainFault(FORM, named("a", seven, "a", "a", "a"));
        desk.dueDomainFault(FORM, named("a", "a", seven, "a", "a"));
        desk.dueDomainFault(FORM, named("a", "a", "a", "a", seven));
        desk.dueDomainFault(FORM, "(define (domain a) (:predicates (a ^?abcdefg)) ");
        desk.dueDomain(1, 0, named("a", "a", "a", "a", "a"));
        desk.dueProblemFault(FORM, "(define (problem ^abcdefg) (:domain a) (:objects a) (:init) (:goal (a a)))");
        desk.dueProblemFault(FORM, "(define (problem p) (:domain ^abcdefg) (:objects a) (:init) (:goal (a a)))");
        desk.dueProblemFault(FORM, "(define (problem p) (:domain a) (:objects ^abcdefg) (:init) (:goal (a a)))");
        desk.dueProblemFault(FORM, "(define (problem p) (:domain a) (:objects a - ^abcdefg) (:init) (:goal (a a)))");
        desk.dueProblemFault(FORM, "(define (problem p) (:domain a) (:objects a) (:init (^abcdefg a)) (:goal (a a)))");
        desk.dueProblemFault(FORM, "(define (problem p) (:domain a) (:objects a) (:init) (:goal (a ^abcdefg)))");
        // Names that differ in their last character, or in their length, are two.
        desk.dueDomain(1, 0, "(define (domain d) (:types abcdef abcdeg abcde 0) (:predicates (p) (pp) (p0) (0p))"
            + " (:action a :parameters () :effect (p0)))");
    }

    private static void nameCharacters() {
        Desk.sentence("small letters or digits");
        for (char c = 33; c <= 126; c++) {
            if (c == '(' || c == ')') {
                continue;
            }
            boolean good = c >= 'a' && c <= 'z' || c >= '0' && c <= '9';
            for (String name : new String[] {"" + c, "x" + c, c + "x", "abcde" + c}) {
                Desk desk = new Desk();
                Object want = good ? 1 : IAE;
                String begin = "(define (domain ";
                desk.dueDomain(want, good ? 0 : FORM + 10 * begin.length(), begin + name
                    + ") (:predicates (p)) (:action a :parameters () :effect (p)))");
            }
            Desk desk = new Desk();
            String begin = "(define (domain d) (:predicates (p ";
            desk.dueDomain(good ? 1 : IAE, good ? 0 : FORM + 10 * begin.length(), begin + "?x" + c
                + ")) (:action a :parameters (?y) :effect (p ?y)))");
        }
    }

    private static void variables() {
        Desk.sentence("a VARIABLE is ? and a NAME");
        Desk desk = new Desk();
        String begin = "(define (domain d) (:predicates (p ?x)) (:action a :parameters (";
        for (String good : new String[] {"?a", "?abcdef", "?0", "?123456", "?x1"}) {
            desk.dueDomain(1, 0, begin + good + ") :effect (p " + good + ")))");
        }
        for (String bad : new String[] {"?", "??a", "a?", "a", "?a?", "?abcdefg", "?A", "?-", "?a-b"}) {
            desk.dueDomainFault(FORM, begin + "^" + bad + ") :effect (p ?a)))");
            desk.dueDomainFault(FORM, begin + "?a) :effect (p ^" + bad + ")))");
        }
        desk.dueDomainFault(FORM, begin + "^? a) :effect (p ?a)))");
    }

    private static void types() {
        Desk.sentence("[ ( :types <1 to 4 names of types> ) ]");
        Desk desk = new Desk();
        String end = " (:predicates (p)) (:action a :parameters () :effect (p)))";
        desk.dueDomain(1, 0, "(define (domain d)" + end);
        desk.dueDomainFault(FORM, "(define (domain d) (:types^)" + end);
        for (int count = 1; count <= 4; count++) {
            desk.dueDomain(1, 0, "(define (domain d) (:types" + first(count, " t", " u", " v", " w") + ")" + end);
        }
        desk.dueDomainFault(FORM, "(define (domain d) (:types t u v w ^x)" + end);
        desk.dueDomainFault(FORM, "(define (domain d) (:types t) (^:types u)" + end);
    }

    private static void predicates() {
        Desk.sentence("( :predicates <1 to 6 predicates> )");
        Desk desk = new Desk();
        String end = " (:action a :parameters () :effect (p)))";
        desk.dueDomainFault(FORM, "(define (domain d) (:predicates^)" + end);
        for (int count = 1; count <= 6; count++) {
            desk.dueDomain(1, 0, "(define (domain d) (:predicates" + first(count, "(p)", "(q ?x)", "(r)", "(s)", "(t)", "(u ?x ?y)")
                + ")" + end);
        }
        desk.dueDomainFault(FORM, "(define (domain d) (:predicates (p) (q) (r) (s) (t) (u) ^(v))" + end);
        desk.dueDomainFault(FORM, "(define (domain d) (^:action a :parameters () :effect (p)))");
        desk.dueDomainFault(FORM, "(define (domain d) (:predicates (p)) (^:predicates (q))" + end);
    }

    private static void actions() {
        Desk.sentence("<1 to 5 actions>");
        Desk desk = new Desk();
        String begin = "(define (domain d) (:predicates (p))";
        String[] parts = new String[6];
        for (int i = 0; i < parts.length; i++) {
            parts[i] = "(:action " + (char) ('a' + i) + " :parameters () :effect (p))";
        }
        desk.dueDomainFault(FORM, begin + "^)");
        for (int count = 1; count <= 5; count++) {
            desk.dueDomain(count, 0, begin + first(count, parts) + ")");
        }
        desk.dueDomainFault(FORM, begin + first(5, parts) + "^" + parts[5] + ")");
    }

    private static void predicateParameters() {
        Desk.sentence("PREDICATE: ( NAME <parameters, at most 2> ).");
        Desk desk = new Desk();
        String end = ")) (:action a :parameters (?x ?y) :effect (p";
        for (int count = 0; count <= 2; count++) {
            String variables = first(count, " ?x", " ?y");
            desk.dueDomain(1, 0, "(define (domain d) (:predicates (p" + variables + end + variables + ")))");
        }
        desk.dueDomainFault(FORM, "(define (domain d) (:predicates (p ?x ?y ^?z" + end + " ?x ?y)))");
        desk.dueDomain(1, 0, "(define (domain d) (:types t u) (:predicates (p) (q ?x - t ?y - u)" + end.substring(1) + ")))");
        desk.dueDomainFault(FORM, "(define (domain d) (:types t u) (:predicates (q ?x - t ?y - u ^?z - t)" + end);
        desk.dueDomainFault(FORM, "(define (domain d) (:predicates (^)" + end + ")))");
    }

    private static void parameterTypes() {
        Desk.sentence("each followed, if it is of one, by - and the name of a type; others are of any.");
        Desk desk = new Desk();
        String begin = "(define (domain d) (:types t) (:predicates (p ?x - t)) (:action a :parameters ";
        desk.dueDomain(1, 0, begin + "(?x - t ?y - t) :effect (and (p ?x) (p ?y))))");
        // One type does not stand for those before it.
        desk.dueDomainFault(TYPE, begin + "(?x ?y - t) :effect (and (p ?y) (p ^?x))))");
        desk.dueDomainFault(TYPE, begin + "(?x - t ?y) :effect (and (p ?x) (p ^?y))))");
        desk.dueDomainFault(FORM, begin + "(?x - ^) :effect (p ?x)))");
        desk.dueDomainFault(FORM, begin + "(?x - ^?y) :effect (p ?x)))");
        desk.dueDomainFault(FORM, begin + "(?x ^t) :effect (p ?x)))");
        desk.dueDomainFault(FORM, begin + "(?x ^-t) :effect (p ?x)))");
        desk.dueDomainFault(FORM, begin + "(^- t) :effect (p ?x)))");
        desk.dueDomainFault(FORM, begin + "(?x - t ^- t) :effect (p ?x)))");
        desk.dueDomainFault(FORM, begin + "(?x - ^- t) :effect (p ?x)))");
        desk.dueDomainFault(UNKNOWN, "(define (domain d) (:predicates (p ?x - ^t)) ");
    }

    private static void actionParameters() {
        Desk.sentence(":parameters ( <parameters, at most 3> )");
        Desk desk = new Desk();
        String begin = "(define (domain d) (:types t) (:predicates (p)) (:action a :parameters (";
        for (int count = 0; count <= 3; count++) {
            desk.dueDomain(1, 0, begin + first(count, "?x", " ?y - t", " ?z") + ") :effect (p)))");
        }
        desk.dueDomainFault(FORM, begin + "?x ?y ?z ^?w) :effect (p)))");
        desk.dueDomainFault(FORM, begin + "?x - t ?y - t ?z - t ^?w - t) :effect (p)))");
        desk.dueDomainFault(FORM, "(define (domain d) (:predicates (p)) (:action a :parameters ^:effect (p)))");
    }

    private static void leftOut() {
        Desk.sentence("[ :precondition CONDITION ] :effect EFFECT");
        Desk desk = new Desk();
        String begin = "(define (domain d) (:predicates (p)) (:action a :parameters () ";
        desk.dueDomain(1, 0, begin + ":effect (p)))");
        desk.dueDomain(1, 0, begin + ":precondition (p) :effect (p)))");
        desk.dueDomainFault(FORM, begin + "^))");
        desk.dueDomainFault(FORM, begin + ":precondition (p) ^))");
        desk.dueDomainFault(FORM, begin + ":precondition ^:effect (p)))");
        desk.dueDomainFault(FORM, begin + ":effect ^))");
        desk.dueDomainFault(FORM, begin + ":effect (p) ^:precondition (p)))");
        desk.dueDomainFault(FORM, begin + ":precondition (p) ^:precondition (p) :effect (p)))");
        desk.dueDomainFault(FORM, begin + ":effect (p) ^:effect (p)))");
        desk.dueDomainFault(FORM, "(define (domain d) (:predicates (p)) (:action a ^:effect (p)))");
        // What is left out asks for nothing.
        desk.dueDomain(1, 0, begin + ":effect (p)))");
        desk.dueProblem(1, 0, PROBLEM);
        desk.planner.put(0);
        Desk.due("check", 1, desk.planner::check);
    }

    private static void conditions() {
        Desk.sentence("CONDITION: a LITERAL, or ( and <1 to 4 literals> ).");
        Desk desk = new Desk();
        String begin = "(define (domain d) (:predicates (p)) (:action a :parameters (?x) :precondition ";
        String problem = "(define (problem q) (:domain d) (:objects x) (:init) (:goal ";
        String[] literals = {" (p)", " (not (p))", " (= ?x ?x)", " (not (= ?x ?x))"};
        String[] grounds = {" (p)", " (not (p))", " (= x x)", " (not (= x x))"};
        desk.dueDomainFault(FORM, begin + "(and ^) :effect (p)))");
        for (int count = 1; count <= 4; count++) {
            desk.dueDomain(1, 0, begin + "(and" + first(count, literals) + ") :effect (p)))");
        }
        desk.dueDomainFault(FORM, begin + "(and" + first(4, literals) + " ^(p)) :effect (p)))");
        desk.dueDomainFault(FORM, begin + "(p) ^(p) :effect (p)))");
        desk.dueDomain(1, 0, begin + "(p) :effect (p)))");
        desk.dueProblemFault(FORM, problem + "(and ^)))");
        for (int count = 1; count <= 4; count++) {
            desk.dueProblem(1, 0, problem + "(and" + first(count, grounds) + ")))");
        }
        desk.dueProblemFault(FORM, problem + "(and" + first(4, grounds) + " ^(p))))");
    }

    private static void literals() {
        Desk.sentence("LITERAL: an ATOM, ( not ATOM ), or ( = TERM TERM ), or ( not ( = TERM TERM ) ).");
        Desk desk = new Desk();
        String begin = "(define (domain d) (:predicates (p)) (:action a :parameters (?x ?y) :precondition ";
        for (String good : new String[] {"(p)", "(not (p))", "(= ?x ?y)", "(not (= ?x ?y))"}) {
            desk.dueDomain(1, 0, begin + good + " :effect (p)))");
            desk.dueDomain(1, 0, begin + "(and " + good + ") :effect (p)))");
        }
        String[] bad = {
            "(^)", "^p", "(not ^)", "(not ^p)", "(not (^))", "(not (p) ^(p))", "(not (p) ^?x)", "(= ^)", "(= ?x ^)",
            "(= ?x ?y ^?x)", "(= ^x ?y)", "(= ?x ^(p))", "(not (= ?x ^))", "(not (= ?x ?y) ^(p))", "(^!= ?x ?y)", "(^=?x ?y)",
        };
        for (String literal : bad) {
            desk.dueDomainFault(FORM, begin + literal + " :effect (p)))");
        }
        // A name in the place of a predicate's is unknown.
        desk.dueDomainFault(UNKNOWN, begin + "(^or (p) (p)) :effect (p)))");
        desk.dueDomainFault(UNKNOWN, begin + "(not (^not (p))) :effect (p)))");
    }

    private static void terms() {
        Desk.sentence("ATOM: ( <name of a predicate> <as many terms as it has parameters> ).");
        Desk desk = new Desk();
        String begin = "(define (domain d) (:predicates (p) (q ?x) (r ?x ?y)) (:action a :parameters (?x ?y) ";
        String problem = "(define (problem q) (:domain d) (:objects x y) ";
        for (String atom : new String[] {"(p)", "(q ?x)", "(r ?x ?y)", "(r ?y ?y)"}) {
            desk.dueDomain(1, 0, begin + ":precondition " + atom + " :effect " + atom + "))");
            String ground = atom.replace("?", "");
            desk.dueProblem(4, 0, problem + "(:init " + ground + ") (:goal " + ground + "))");
        }
        for (String atom : new String[] {"(p ^?x)", "(q ^)", "(q ?x ^?y)", "(r ^)", "(r ?x ^)", "(r ?x ?y ^?x)", "(q ^(?x))"}) {
            desk.dueDomainFault(FORM, begin + ":precondition " + atom + " :effect (p)))");
            desk.dueDomainFault(FORM, begin + ":effect (not " + atom + ")))");
            desk.dueDomain(1, 0, begin + ":effect (p)))");
            String ground = atom.replace("?", "");
            desk.dueProblemFault(FORM, problem + "(:init " + ground + ") (:goal (p)))");
            desk.dueProblemFault(FORM, problem + "(:init) (:goal (not " + ground + ")))");
        }
        Desk.sentence("TERM: a variable.");
        desk.dueDomainFault(FORM, begin + ":effect (q ^x)))");
        desk.dueDomainFault(FORM, begin + ":precondition (= ?x ^y) :effect (p)))");
    }

    private static void effects() {
        Desk.sentence("EFFECT: one of these, or ( and <1 to 4 of them> )");
        Desk desk = new Desk();
        String begin = "(define (domain d) (:predicates (p)) (:action a :parameters () :effect ";
        String[] changes = {" (p)", " (not (p))", " (increase (total-cost) 5)", " (p)"};
        for (String one : changes) {
            desk.dueDomain(1, 0, begin + one + "))");
        }
        desk.dueDomainFault(FORM, begin + "(and ^)))");
        for (int count = 1; count <= 4; count++) {
            desk.dueDomain(1, 0, begin + "(and" + first(count, changes) + ")))");
        }
        desk.dueDomainFault(FORM, begin + "(and" + first(4, changes) + " ^(p))))");
        desk.dueDomainFault(FORM, begin + "(and (p) (p) (p) (p) ^(increase (total-cost) 1))))");
        desk.dueDomainFault(FORM, begin + "(p) ^(p)))");
        desk.dueDomainFault(FORM, begin + "^))");
        desk.dueDomainFault(FORM, begin + "(^)))");
    }

    private static void costs() {
        Desk.sentence("( increase ( total-cost ) <a number of 1 to 3 digits, above 0> )");
        Desk desk = new Desk();
        String begin = "(define (domain d) (:predicates (p)) (:action a :parameters () :effect (increase (total-cost) ";
        String[] good = {"1", "2", "9", "01", "10", "99", "001", "010", "100", "998", "999"};
        for (String number : good) {
            desk.dueDomain(1, 0, begin + number + ")))");
            desk.dueProblem(1, 0, PROBLEM);
            Desk.due("cost " + number, Integer.parseInt(number), () -> desk.planner.ground(0, 4));
        }
        String[] bad = {"", "0", "00", "000", "0000", "0001", "1000", "9999", "-1", "+1", "1.0", "a", "1a", "a1", "?1", "1/", "1:"};
        for (String number : bad) {
            desk.dueDomainFault(FORM, begin + "^" + number + ")))");
        }
        desk.dueDomainFault(FORM, begin + "1 ^1)))");
        desk.dueDomainFault(FORM, begin + "^(1))))");
        desk.dueDomainFault(FORM, begin.replace("(total-cost)", "^total-cost") + "1)))");
        desk.dueDomainFault(FORM, begin.replace("total-cost", "^total") + "1)))");
        desk.dueDomainFault(FORM, begin.replace("total-cost", "^") + "1)))");
    }

    private static void keywords() {
        Desk.sentence("(What can be read as and, not, = or increase there is that.)");
        Desk desk = new Desk();
        String begin = "(define (domain d) (:predicates (and) (not) (p)) (:action a :parameters (?x) ";
        // Behind the first parenthesis of a condition and may stand, behind a further one it can't.
        desk.dueDomainFault(FORM, begin + ":precondition (and^) :effect (p)))");
        desk.dueDomainFault(FORM, begin + ":precondition (not^) :effect (p)))");
        desk.dueDomainFault(FORM, begin + ":effect (and^)))");
        desk.dueDomainFault(FORM, begin + ":effect (not^)))");
        desk.dueDomain(1, 0, begin + ":precondition (and (and)) :effect (and (and) (p))))");
        desk.dueDomain(1, 0, begin + ":precondition (not (not)) :effect (not (and))))");
        desk.dueDomainFault(FORM, begin + ":precondition (and (not^)) :effect (p)))");
        desk.dueDomainFault(FORM, begin + ":precondition (and (and ^(p))) :effect (p)))");
        desk.dueDomainFault(FORM, begin + ":precondition (not (not ^(p))) :effect (p)))");
        desk.dueDomainFault(FORM, begin + ":precondition (^increase (total-cost) 1) :effect (p)))");
        desk.dueDomainFault(FORM, begin + ":effect (^= ?x ?x)))");
        desk.dueDomainFault(FORM, begin + ":effect (not (^= ?x ?x))))");
        desk.dueDomainFault(FORM, begin + ":effect (not (^increase (total-cost) 1))))");
        desk.dueDomain(1, 0, begin + ":effect (p)))");
        String problem = "(define (problem q) (:domain d) (:objects x) ";
        // In :init there are atoms alone.
        desk.dueProblem(1, 0, problem + "(:init (and) (not)) (:goal (and (and) (not (p)))))");
        Desk.due("check", 0, desk.planner::check);
        desk.dueProblemFault(FORM, problem + "(:init (not ^(p))) (:goal (p)))");
        desk.dueProblemFault(FORM, problem + "(:init (^= x x)) (:goal (p)))");
        desk.dueDomain(1, 0, DOMAIN);
        desk.dueProblemFault(UNKNOWN, problem + "(:init (^not (p))) (:goal (p)))");
        desk.dueProblemFault(UNKNOWN, problem + "(:init (^and (p))) (:goal (p)))");
        desk.dueProblemFault(UNKNOWN, problem + "(:init) (:goal (and (^and (p)))))");
    }

    private static void objects() {
        Desk.sentence("( :objects <1 to 6 names of objects, each followed, if it is of one, by - and the name of a type> )");
        Desk desk = new Desk();
        desk.dueDomain(1, 0, "(define (domain d) (:types t) (:predicates (p)) (:action a :parameters (?x) :effect (p)))");
        String begin = "(define (problem q) (:domain d) (:objects";
        String end = ") (:init) (:goal (p)))";
        desk.dueProblemFault(FORM, begin + "^" + end);
        for (int count = 1; count <= 6; count++) {
            desk.dueProblem(count, 0, begin + first(count, " u", " v", " w", " x", " y", " z") + end);
            desk.dueProblem(count, 0, begin + first(count, " u - t", " v", " w - t", " x - t", " y", " z - t") + end);
        }
        desk.dueProblemFault(FORM, begin + " u v w x y z ^a" + end);
        desk.dueProblemFault(FORM, begin + " u v w x y z - t ^a - t" + end);
        desk.dueProblemFault(FORM, begin + " u - ^" + end);
        desk.dueProblemFault(FORM, begin + " u - t ^- t" + end);
        desk.dueProblemFault(FORM, begin + " ^- t" + end);
        desk.dueProblemFault(FORM, begin + " ^?u" + end);
        desk.dueProblemFault(FORM, "(define (problem q) (:domain d) (^:init) (:goal (p)))");
    }

    private static void init() {
        Desk.sentence("( :init <at most 12 atoms> )");
        Desk desk = new Desk();
        desk.dueDomain(1, 0, "(define (domain d) (:predicates (p) (q ?x ?y)) (:action a :parameters () :effect (p)))");
        String begin = "(define (problem q) (:domain d) (:objects x y z w) (:init";
        String end = ") (:goal (and (q w z) (q x x))))";
        String atoms = "";
        String names = "xyzw";
        for (int count = 0; count <= 12; count++) {
            desk.dueProblem(1, 0, begin + atoms + end);
            // (q w z) is the twelfth one.
            Desk.due("check of " + count, count == 12 ? 0 : -100, desk.planner::check);
            int next = count == 11 ? 14 : count;
            atoms += " (q " + names.charAt(next / 4) + " " + names.charAt(next % 4) + ")";
        }
        desk.dueProblemFault(FORM, begin + " (p)".repeat(12) + " ^(p)" + end);
        desk.dueProblem(1, 0, begin + " (p)".repeat(12) + end);
        desk.dueProblemFault(FORM, begin + " ^p" + end);
        desk.dueProblemFault(FORM, "(define (problem q) (:domain d) (:objects x y z w) (^:goal (p)))");
    }

    private static void goal() {
        Desk.sentence("( :goal CONDITION ) ), with names of objects as terms.");
        Desk desk = new Desk();
        desk.dueDomain(1, 0, "(define (domain d) (:predicates (p ?x)) (:action a :parameters (?x) :effect (p ?x)))");
        String begin = "(define (problem q) (:domain d) (:objects x y) (:init (p x)) (:goal ";
        for (String good : new String[] {"(p x)", "(not (p y))", "(= x x)", "(not (= x y))", "(and (p x))"}) {
            desk.dueProblem(2, 0, begin + good + "))");
            Desk.due("check of " + good, 0, desk.planner::check);
        }
        for (String good : new String[] {"(p y)", "(not (p x))", "(= x y)", "(not (= y y))", "(and (p x) (p y))"}) {
            desk.dueProblem(2, 0, begin + good + "))");
            Desk.due("check of " + good, -100, desk.planner::check);
        }
        for (String bad : new String[] {"^", "(p ^?x)", "(= x ^?x)", "(p x) ^(p x)", "(^)", "^x"}) {
            desk.dueProblemFault(FORM, begin + bad + "))");
        }
        desk.dueProblemFault(FORM, begin + "(p x)) ^(:goal (p x)))");
        desk.dueProblemFault(FORM, begin + "(p x)))^)");
        desk.dueProblemFault(FORM, "(define (problem q) (:domain d) (:objects x y) (:init (p ^?x)) (:goal (p x)))");
        desk.dueProblemFault(FORM, "(define (problem q) (:domain d) (:objects x y) (:init (p x)) ^)");
    }

    private static void places() {
        Desk.sentence("the place of the first character of a token, from 0; the text's length if it ends too early");
        Desk desk = new Desk();
        desk.dueDomainFault(FORM, "^");
        desk.dueDomainFault(FORM, "^x");
        desk.dueDomainFault(FORM, " ^xyz");
        desk.dueDomainFault(FORM, "   ^");
        for (int end = 0; end < DOMAIN.length(); end++) {
            if (" ()".indexOf(DOMAIN.charAt(end)) >= 0) {
                desk.dueDomainFault(FORM, DOMAIN.substring(0, end) + "^");
                desk.dueDomainFault(FORM, DOMAIN.substring(0, end) + "  ^");
            }
        }
        desk.dueDomain(1, 0, DOMAIN);
        for (int end = 0; end < PROBLEM.length(); end++) {
            if (" ()".indexOf(PROBLEM.charAt(end)) >= 0) {
                desk.dueProblemFault(FORM, PROBLEM.substring(0, end) + "^");
                desk.dueProblemFault(FORM, PROBLEM.substring(0, end) + "  ^");
            }
        }
        desk.dueDomainFault(FORM, DOMAIN + " ".repeat(599 - DOMAIN.length()) + "^x");
        desk.dueDomainFault(FORM, stretched(DOMAIN, 601).substring(0, 600) + "^");
    }

    private static void firstFault() {
        Desk.sentence("the first that is met as the text is read from its beginning");
        Desk desk = new Desk();
        desk.dueDomainFault(NEW, "(define (domain d) (:types t ^t) (:predicates (p ?x - u ?x)) oops");
        desk.dueDomainFault(UNKNOWN, "(define (domain d) (:types t) (:predicates (p ?x - ^u ?x)) oops");
        desk.dueDomainFault(NEW, "(define (domain d) (:types t) (:predicates (p ?x ^?x - u)) oops");
        String begin = "(define (domain d) (:types t) (:predicates (p ?x - t)) (:action a :parameters (?x) ";
        desk.dueDomainFault(TYPE, begin + ":precondition (p ^?x) :effect (and (increase (total-cost) 1) (increase 0)))");
        desk.dueDomainFault(TWICE, begin + ":effect (and (increase (total-cost) 1) (^increase 0) (p ?x)))");
        desk.dueDomainFault(FORM, begin + ":effect (and (increase (total-cost) ^0) (increase (total-cost) 1)))");
        desk.dueDomainFault(FORM, "^define (domain D)");
    }

    private static void numbersInOrder() {
        Desk.sentence("(a token is looked at for each number in their order)");
        Desk desk = new Desk();
        // One too many is told before that it was told before, or that it is unknown.
        desk.dueDomainFault(FORM, "(define (domain d) (:types t u v w ^t)");
        desk.dueDomainFault(FORM, "(define (domain d) (:predicates (p ?x ?y ^?x))");
        desk.dueDomainFault(FORM, "(define (domain d) (:predicates (p ?x)) (:action a :parameters (?x ?y ?z ^?x)");
        desk.dueDomainFault(FORM, "(define (domain d) (:predicates (p ?x)) (:action a :parameters (?x) :effect (p ?x ^?w)");
        String begin = "(define (domain d) (:types t) (:predicates (p ?x - t) (q)) (:action a :parameters (?x) :effect ";
        desk.dueDomainFault(FORM, begin + "(and (increase (total-cost) 1) (q) (q) (q) ^(increase (total-cost) 1))))");
        desk.dueDomainFault(UNKNOWN, begin + "(p ^?y)))");
        desk.dueDomainFault(FORM, begin + "(p ^y)))");
        desk.dueDomain(1, 0, begin + "(q)))");
        desk.dueProblemFault(FORM, "(define (problem q) (:domain d) (:objects a b c d e f ^a)");
        desk.dueProblemFault(UNKNOWN, "(define (problem q) (:domain d) (:objects a) (:init (p ^b))");
        desk.dueProblemFault(TYPE, "(define (problem q) (:domain d) (:objects a) (:init (p ^a))");
    }

    private static void form() {
        Desk.sentence("1 FORM: a token that can't stand there (one too many of something, too)");
        Desk desk = new Desk();
        desk.dueDomainFault(FORM, DOMAIN + "^(");
        desk.dueDomainFault(FORM, DOMAIN + "^)");
        for (String behind : new String[] {"x", "?x", "-", "?", ":action", "X", "abcdefg"}) {
            desk.dueDomainFault(FORM, DOMAIN + "^" + behind);
        }
        desk.dueDomainFault(FORM, "(define (^domains d)");
        desk.dueDomainFault(FORM, "(^Define (domain d)");
        desk.dueDomainFault(FORM, "(define (domain d) (^types t)");
        desk.dueDomainFault(FORM, "(define (domain d) (^:type t)");
        desk.dueDomainFault(FORM, "(define (domain d) (:predicates (p)) (^action a");
        desk.dueDomainFault(FORM, "(define (domain d) (:predicates (p)) (:action a ^parameters ()");
        desk.dueDomainFault(FORM, "(define (domain d ^d) (:predicates (p))");
        desk.dueDomain(1, 0, DOMAIN);
        desk.dueProblemFault(FORM, PROBLEM + "^(");
        desk.dueProblemFault(FORM, PROBLEM + " ^x");
        desk.dueProblemFault(FORM, PROBLEM + " ^-");
        desk.dueProblemFault(FORM, "(define (^domain d) (:predicates (p))");
        desk.dueProblemFault(FORM, "(define (problem q ^q) (:domain d)");
        desk.dueProblemFault(FORM, "(define (problem q) (:domain d ^d)");
        desk.dueDomainFault(FORM, "(define (^problem q) (:domain d)");
    }

    private static void newNames() {
        Desk.sentence("2 NEW: a name of a type, predicate, action, object, or a variable of a predicate or action, that was told before"
            + " in its kind");
        Desk desk = new Desk();
        String action = " (:action a :parameters () :effect (p))";
        desk.dueDomainFault(NEW, "(define (domain d) (:types t u v ^t)");
        desk.dueDomainFault(NEW, "(define (domain d) (:types t ^t)");
        desk.dueDomainFault(NEW, "(define (domain d) (:predicates (a) (b) (c) (d) (e) (^e))");
        desk.dueDomainFault(NEW, "(define (domain d) (:predicates (a ?x) (^a ?x ?y))");
        desk.dueDomainFault(NEW, "(define (domain d) (:predicates (a ?x ^?x))");
        desk.dueDomainFault(NEW, "(define (domain d) (:predicates (p))" + action + " (:action b :parameters () :effect (p))"
            + action.replace(" a ", " ^a "));
        desk.dueDomainFault(NEW, "(define (domain d) (:predicates (p)) (:action a :parameters (?x ?y ^?y)");
        // The domain's name is of no kind of these; in another kind, or predicate, or action, it is told for the first time.
        desk.dueDomain(2, 0, "(define (domain a) (:types a) (:predicates (a ?a - a) (b ?a)) (:action a :parameters (?a - a)"
            + " :effect (a ?a)) (:action b :parameters (?a) :effect (b ?a)))");
        desk.dueProblem(2, 0, "(define (problem a) (:domain a) (:objects a - a) (:init (a a)) (:goal (b a)))");
        desk.dueProblemFault(NEW, "(define (problem q) (:domain a) (:objects x ^x)");
        desk.dueProblemFault(NEW, "(define (problem q) (:domain a) (:objects x - a y z ^x - a)");
        // What a text before told is forgotten.
        desk.dueProblem(2, 0, "(define (problem a) (:domain a) (:objects a - a) (:init (a a)) (:goal (b a)))");
        desk.dueDomain(1, 0, DOMAIN);
        desk.dueDomain(1, 0, DOMAIN);
    }

    private static void unknownNames() {
        Desk.sentence("3 UNKNOWN: a name of a type or predicate (in the place of one) or object that was not told, a variable that the"
            + " action has not; a problem of another domain's name");
        Desk desk = new Desk();
        desk.dueDomainFault(UNKNOWN, "(define (domain d) (:types t) (:predicates (p ?x - ^p))");
        desk.dueDomainFault(UNKNOWN, "(define (domain d) (:types t) (:predicates (p)) (:action a :parameters (?x - ^tt)");
        String begin = "(define (domain d) (:types t) (:predicates (p) (q ?x)) (:action a :parameters (?x) ";
        desk.dueDomainFault(UNKNOWN, begin + ":precondition (^t) :effect (p)))");
        desk.dueDomainFault(UNKNOWN, begin + ":precondition (not (^r)) :effect (p)))");
        desk.dueDomainFault(UNKNOWN, begin + ":effect (^a)))");
        desk.dueDomainFault(UNKNOWN, begin + ":effect (q ^?y)))");
        desk.dueDomainFault(UNKNOWN, begin + ":precondition (= ^?y ?x) :effect (p)))");
        desk.dueDomainFault(UNKNOWN, begin + ":effect (q ?x)) (:action b :parameters (?y) :effect (q ^?x)))");
        desk.dueDomain(1, 0, begin + ":effect (q ?x)))");
        String problem = "(define (problem q) (:domain d) (:objects x) ";
        desk.dueProblemFault(UNKNOWN, "(define (problem q) (:domain ^q) (:objects x) (:init) (:goal (p)))");
        desk.dueProblemFault(UNKNOWN, "(define (problem q) (:domain ^d0) (:objects x) (:init) (:goal (p)))");
        desk.dueProblemFault(UNKNOWN, "(define (problem q) (:domain d) (:objects x - ^x) (:init) (:goal (p)))");
        desk.dueProblemFault(UNKNOWN, problem + "(:init (^x)) (:goal (p)))");
        desk.dueProblemFault(UNKNOWN, problem + "(:init (q ^y)) (:goal (p)))");
        desk.dueProblemFault(UNKNOWN, problem + "(:init) (:goal (q ^y)))");
        desk.dueProblemFault(UNKNOWN, problem + "(:init) (:goal (not (= x ^y))))");
        desk.dueProblem(1, 0, problem + "(:init) (:goal (p)))");
        // Types and predicates of the domain before are not told in the next one.
        desk.dueDomainFault(UNKNOWN, DOMAIN.replace(":effect (p)", ":effect (^q ?x)"));
        desk.dueDomain(1, 0, DOMAIN);
        desk.dueProblemFault(UNKNOWN, "(define (problem q) (:domain d) (:objects x - ^t) (:init) (:goal (p)))");
        desk.dueProblemFault(UNKNOWN, "(define (problem q) (:domain d) (:objects x) (:init) (:goal (^q x)))");
    }

    private static void fittingTypes() {
        Desk.sentence("4 TYPE: a term of an atom whose type is not that of the predicate's parameter (one that is of any type fits a"
            + " parameter of any alone; a parameter of any takes all; objects likewise)");
        String[] of = {"", " - t", " - u"};
        for (int parameter = 0; parameter < 3; parameter++) {
            for (int term = 0; term < 3; term++) {
                boolean fits = parameter == 0 || parameter == term;
                String begin = "(define (domain d) (:types t u) (:predicates (p ?x" + of[parameter] + ") (q ?x ?y" + of[parameter]
                    + ") (r)) (:action a :parameters (?v ?x" + of[term] + ") :effect ";
                String problem = "(define (problem q) (:domain d) (:objects v x" + of[term] + ") (:init";
                Desk desk = new Desk();
                for (String atom : new String[] {"(p ^?x)", "(q ?v ^?x)", "(not (q ?x ^?x))"}) {
                    if (fits) {
                        desk.dueDomain(1, 0, (begin + atom + "))").replace("^", ""));
                    } else {
                        desk.dueDomainFault(TYPE, begin + atom + "))");
                    }
                }
                desk.dueDomain(1, 0, begin + "(r)))");
                int steps = term == 0 ? 4 : 2;
                for (String end : new String[] {" (q v ^x)) (:goal (r)))", ") (:goal (not (p ^x))))"}) {
                    if (fits) {
                        desk.dueProblem(steps, 0, (problem + end).replace("^", ""));
                    } else {
                        desk.dueProblemFault(TYPE, problem + end);
                    }
                }
            }
        }
    }

    private static void twice() {
        Desk.sentence("5 TWICE: a second increase in an effect (at this word).");
        Desk desk = new Desk();
        String begin = "(define (domain d) (:predicates (p)) (:action a :parameters () :effect ";
        String one = "(increase (total-cost) 1)";
        desk.dueDomain(1, 0, begin + "(and " + one + ")))");
        desk.dueDomainFault(TWICE, begin + "(and " + one + " (^increase (total-cost) 2))))");
        desk.dueDomainFault(TWICE, begin + "(and " + one + " (p) (p) (^increase (total-cost) 1))))");
        desk.dueDomainFault(TWICE, begin + "(and " + one + " (^increase)");
        desk.dueDomain(2, 0, begin + one + ") (:action b :parameters () :effect " + one + "))");
        desk.dueDomain(2, 0, begin + "(and (p) " + one + ")) (:action b :parameters () :effect (and " + one + " (p))))");
    }

    private static void equality() {
        Desk.sentence("= needs no types.");
        Desk desk = new Desk();
        desk.dueDomain(1, 0, "(define (domain d) (:types t u) (:predicates (p)) (:action a :parameters (?x - t ?y - u ?z)"
            + " :precondition (and (not (= ?x ?y)) (= ?x ?z) (not (= ?z ?y))) :effect (p)))");
        desk.dueProblem(2, 0, "(define (problem q) (:domain d) (:objects a - t b - u c e - t) (:init) (:goal (and (not (= a b))"
            + " (not (= b c)) (= c c) (p))))");
        Desk.due("plan", 1, () -> desk.planner.plan(200));
    }

    private static void problemOfADomain() {
        Desk.sentence("A problem can be read when a domain was.");
        Desk desk = new Desk();
        desk.type(PROBLEM);
        Desk.due("before a domain", ISE, desk.planner::problem);
        Desk.due("it is no domain", IAE, desk.planner::domain);
        Desk.due("behind a domain with a fault", ISE, () -> desk.problem(PROBLEM));
        Desk.due("no domain", IAE, desk.planner::domain);
        desk.dueDomain(1, 0, DOMAIN);
        desk.dueProblem(1, 0, PROBLEM);
        desk.dueProblem(1, 0, PROBLEM);
        desk.dueProblemFault(FORM, "^");
        desk.dueProblem(1, 0, PROBLEM);
    }

    private static void fittingObjects() {
        Desk.sentence("the objects that fit a variable are those of its type, or all for one of any.");
        Desk desk = new Desk();
        desk.dueDomain(4, 0, "(define (domain d) (:types t u v) (:predicates (p)) (:action a :parameters (?x - t) :effect (p))"
            + " (:action b :parameters (?x) :effect (p)) (:action c :parameters (?x - v) :effect (p)) (:action d :parameters"
            + " (?x - t ?y - u) :effect (p)))");
        // a: 2 of t, b: all 4, c: none, d: 2 * 1.
        desk.dueProblem(8, 0, "(define (problem q) (:domain d) (:objects a - t b c - u d - t) (:init) (:goal (p)))");
        int[][] want = {{0, 0, -1, -1}, {0, 3, -1, -1}, {1, 0, -1, -1}, {1, 1, -1, -1}, {1, 2, -1, -1}, {1, 3, -1, -1},
            {3, 0, 2, -1}, {3, 3, 2, -1}};
        dueGround(desk, want);
        desk.dueProblem(1, 0, "(define (problem q) (:domain d) (:objects a) (:init) (:goal (p)))");
        dueGround(desk, new int[][] {{1, 0, -1, -1}});
    }

    /** Of each step in order its action and objects. */
    private static void dueGround(Desk desk, int[][] want) {
        for (int step = 0; step < want.length; step++) {
            for (int what = 0; what < want[step].length; what++) {
                int s = step;
                int w = what;
                Desk.due("ground " + s + " " + w, want[s][w], () -> desk.planner.ground(s, w));
            }
        }
        Desk.due("ground behind the last", "NoSuchElementException", () -> desk.planner.ground(want.length, 0));
    }

    private static void orderOfSteps() {
        Desk.sentence("steps are ordered by their action, then by the first parameter's object (as they were told), then the second's,"
            + " and so on.");
        Desk desk = Desk.ready("(define (domain d) (:predicates (p)) (:action z :parameters (?c ?b ?a) :effect (p)) (:action a"
            + " :parameters (?x) :effect (p)) (:action m :parameters () :effect (p)))",
            "(define (problem q) (:domain d) (:objects y x) (:init) (:goal (p)))");
        int[][] want = new int[11][4];
        for (int i = 0; i < 8; i++) {
            want[i] = new int[] {0, i / 4, i / 2 % 2, i % 2};
        }
        want[8] = new int[] {1, 0, -1, -1};
        want[9] = new int[] {1, 1, -1, -1};
        want[10] = new int[] {2, -1, -1, -1};
        dueGround(desk, want);
    }

    private static void noSteps() {
        Desk.sentence("Those whose = (or not =) does not hold are none.");
        Desk desk = new Desk();
        desk.dueDomain(2, 0, "(define (domain d) (:predicates (p)) (:action a :parameters (?x ?y) :precondition (not (= ?x ?y))"
            + " :effect (p)) (:action b :parameters (?x ?y) :precondition (and (p) (= ?y ?x)) :effect (p)))");
        desk.dueProblem(4, 0, "(define (problem q) (:domain d) (:objects x y) (:init) (:goal (p)))");
        dueGround(desk, new int[][] {{0, 0, 1, -1}, {0, 1, 0, -1}, {1, 0, 0, -1}, {1, 1, 1, -1}});
        desk.dueProblem(1, 0, "(define (problem q) (:domain d) (:objects x) (:init) (:goal (p)))");
        dueGround(desk, new int[][] {{1, 0, 0, -1}});
        desk.dueDomain(1, 0, "(define (domain d) (:predicates (p)) (:action a :parameters (?x) :precondition (not (= ?x ?x))"
            + " :effect (p)))");
        desk.dueProblem(0, 0, "(define (problem q) (:domain d) (:objects x y z) (:init) (:goal (p)))");
        dueGround(desk, new int[0][0]);
        Desk.due("plan", -1, () -> desk.planner.plan(1));
    }

    private static void firstState() {
        Desk.sentence("A STATE is a set of facts; at first those of :init.");
        Desk desk = new Desk();
        desk.dueDomain(1, 0, "(define (domain d) (:predicates (p) (q)) (:action a :parameters () :precondition (p) :effect (not (p))))");
        String begin = "(define (problem q) (:domain d) (:objects x) (:init";
        desk.dueProblem(1, 0, begin + ") (:goal (and (not (p)) (not (q)))))");
        desk.dueCheck(0);
        desk.dueCheck(-1, 0);
        // A fact that is told twice is in the state once.
        desk.dueProblem(1, 0, begin + " (p) (q) (p)) (:goal (and (not (p)) (q))))");
        desk.dueCheck(-100);
        desk.dueCheck(1, 0);
        desk.dueCheck(-2, 0, 0);
        // Nothing of the problem before is in it.
        desk.dueProblem(1, 0, begin + ") (:goal (not (q))))");
        desk.dueCheck(0);
        desk.dueCheck(-1, 0);
    }

    private static void doing() {
        Desk.sentence("A step CAN BE DONE if its atoms are in the state and those with not are not; then those that GO are taken out,"
            + " then those that COME are put in.");
        Desk desk = Desk.ready("(define (domain d) (:predicates (p) (q) (r)) (:action a :parameters () :precondition (and (p) (not (q)))"
            + " :effect (and (q) (not (p)))) (:action b :parameters () :effect (and (r) (not (r)))) (:action c :parameters () :effect"
            + " (and (not (p)) (not (q)) (p))) (:action e :parameters () :precondition (and (p) (not (p))) :effect (r)))",
            "(define (problem q) (:domain d) (:objects x) (:init (p)) (:goal (and (r) (p))))");
        desk.dueCheck(-2, 0, 0);
        desk.dueCheck(1, 1);
        desk.dueCheck(-100, 0, 1);
        desk.dueCheck(4, 0, 1, 2, 1);
        desk.dueCheck(3, 2, 2, 1);
        desk.dueCheck(-1, 3);
        Desk.due("plan", 1, () -> desk.planner.plan(1));
        // Nothing of the steps before is in those of a new domain.
        desk.dueDomain(1, 0, "(define (domain d) (:predicates (p) (q) (r)) (:action a :parameters () :effect (r)))");
        desk.dueProblem(1, 0, "(define (problem q) (:domain d) (:objects x) (:init (p)) (:goal (and (p) (r) (not (q)))))");
        desk.dueCheck(2, 0, 0);
        desk.dueProblem(1, 0, "(define (problem q) (:domain d) (:objects x) (:init (q)) (:goal (and (q) (r) (not (p)))))");
        desk.dueCheck(1, 0);
    }

    private static void stepCost() {
        Desk.sentence("Its COST is the number of its increase, else 1.");
        Desk desk = Desk.ready("(define (domain d) (:predicates (p)) (:action a :parameters () :effect (p)) (:action b :parameters ()"
            + " :effect (and (not (p)) (increase (total-cost) 999))) (:action c :parameters () :effect (increase (total-cost) 1)))",
            PROBLEM);
        Desk.due("none", 1, () -> desk.planner.ground(0, 4));
        Desk.due("999", 999, () -> desk.planner.ground(1, 4));
        Desk.due("1", 1, () -> desk.planner.ground(2, 4));
        desk.dueCheck(1002, 1, 2, 2, 0);
    }

    private static void plans() {
        Desk.sentence("A PLAN is a row of steps, each of which can be done one behind the other, behind which the goal holds; its cost is"
            + " the sum of theirs.");
        Desk desk = Desk.ready("(define (domain d) (:predicates (p) (q)) (:action a :parameters () :precondition (not (p)) :effect (and"
            + " (p) (increase (total-cost) 2))) (:action b :parameters () :precondition (p) :effect (and (q) (increase"
            + " (total-cost) 30))))", "(define (problem q) (:domain d) (:objects x) (:init) (:goal (q)))");
        desk.dueCheck(32, 0, 1);
        desk.dueCheck(-1, 1, 0);
        desk.dueCheck(-100, 0);
        // A goal that held on the way does not matter, nor that one holds behind more steps.
        desk.dueCheck(62, 0, 1, 1);
        desk.dueCheck(-2, 0, 0, 1);
        Desk.due("plan", 32, () -> desk.planner.plan(200));
    }

    /** An action without parameters that needs one atom, takes it and gives another. */
    private static String move(String name, String from, String to, int cost) {
        return "(:action " + name + " :parameters ():precondition (" + from + "):effect (and (" + to + ") (not (" + from
            + ")) (increase (total-cost) " + cost + ")))";
    }

    private static void duePlan(String steps, int cost, String... actions) {
        Desk desk = Desk.ready("(define (domain d) (:predicates (a) (b) (c) (e) (g))" + String.join("", actions) + ")",
            "(define (problem p) (:domain d) (:objects x) (:init (a)) (:goal (g)))");
        Desk.due("plan", cost, () -> desk.planner.plan(200));
        Desk.due("steps", steps, desk::planSteps);
    }

    private static void ties() {
        Desk.sentence("THE plan is that of the least cost;");
        duePlan(" 1 2", 9, move("i", "a", "g", 10), move("j", "a", "b", 4), move("k", "b", "g", 5));
        duePlan(" 0", 8, move("i", "a", "g", 8), move("j", "a", "b", 4), move("k", "b", "g", 5));
        Desk.sentence("of several the one with the fewest steps;");
        duePlan(" 2", 9, move("j", "a", "b", 4), move("k", "b", "g", 5), move("i", "a", "g", 9));
        duePlan(" 3 2", 9, move("j", "a", "b", 1), move("k", "b", "c", 1), move("l", "c", "g", 7), move("m", "a", "c", 2),
            move("n", "c", "g", 7));
        // The same on the way: c is come to by b and e first, then as cheaply by k alone, which has fewer steps.
        Desk desk = Desk.ready("(define (domain d) (:predicates (a) (b) (c) (e) (k)) (:action i :parameters () :precondition (and (not (b))"
            + " (not (k)) (not (e))) :effect (and (b) (not (a))))" + move("j", "b", "e", 1) + move("l", "e", "c", 2)
            + move("m", "a", "k", 3) + move("n", "k", "c", 1) + ")",
            "(define (problem p) (:domain d) (:objects x) (:init (a)) (:goal (and (c) (b))))");
        Desk.due("plan", 5, () -> desk.planner.plan(200));
        Desk.due("steps", " 3 4 0", desk::planSteps);
        Desk.sentence("of these the one whose first step is first in order, then whose second one is, and so on.");
        duePlan(" 0", 1, move("i", "a", "g", 1), move("j", "a", "g", 1));
        duePlan(" 1 0", 2, move("i", "b", "g", 1), move("j", "a", "b", 1), move("k", "a", "c", 1), move("l", "c", "g", 1));
        duePlan(" 0 3", 9, move("i", "a", "c", 8), move("j", "a", "b", 1), move("k", "b", "g", 8), move("l", "c", "g", 1));
        duePlan(" 0 1", 2, move("i", "a", "b", 1), move("j", "b", "g", 1), move("k", "b", "g", 1));
        // The same on the way: c is come to by b first, by the other way as cheaply and with a step that is first in order.
        duePlan(" 0 3 4", 5, move("i", "a", "e", 2), move("j", "a", "b", 1), move("k", "b", "c", 3), move("l", "e", "c", 2),
            move("m", "c", "g", 1));
        // The dearer a lamp is the sooner it is told, and the later are the states with it looked at.
        Desk lamps = Desk.ready("(define (domain d) (:predicates (b) (m) (s)) (:action b :parameters () :effect (and (b) (increase"
            + " (total-cost) 3))) (:action m :parameters () :effect (and (m) (increase (total-cost) 2))) (:action s :parameters ()"
            + " :effect (s)))", "(define (problem p) (:domain d) (:objects x) (:init) (:goal (and (s) (m) (b))))");
        Desk.due("plan", 6, () -> lamps.planner.plan(200));
        Desk.due("steps", " 0 1 2", lamps::planSteps);
    }
}
