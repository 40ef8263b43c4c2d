import java.util.Arrays;
import java.util.NoSuchElementException;

/**
 * Plans with least cost: a domain of typed actions and a problem are typed as text, read and
 * checked, made ground, looked through for the cheapest plan, which is told as text; any plan that
 * is typed is checked against what was read.
 */
public final class CheapPlanner {
    private static final int MOST_ROW = 60;
    private static final int MOST_STATES = 200;
    /** A line of the told plan: two parentheses, four names of six, three blanks, the line's end. */
    private static final int MOST_LINE = 30;
    private static final int GOAL_MISSED = -100;

    private final Tokens tokens = new Tokens();
    private final Domain rules = new Domain();
    private final Problem task = new Problem();
    private final Reader reader = new Reader(tokens, rules, task);
    private final Ground scene = new Ground();
    private final Search search = new Search(scene);
    private final Estimate guess = new Estimate(scene);
    private boolean hasDomain;
    private boolean hasProblem;
    private final int[] row = new int[MOST_ROW];
    private int rowLength;
    private final char[] told = new char[MOST_STATES * MOST_LINE];
    private int toldLength;

    public CheapPlanner() {
        hasDomain = false;
        hasProblem = false;
    }

    public boolean text(int p, int q, int r, int s, int t) {
        int before = tokens.size();
        boolean all = tokens.take(p) && tokens.take(q) && tokens.take(r) && tokens.take(s) && tokens.take(t);
        if (!all) {
            tokens.shorten(before);
        }
        return all;
    }

    public int domain() throws IllegalArgumentException {
        // All is forgotten first, since a fault leaves by an exception from within the reader.
        hasDomain = false;
        forgetProblem();
        reader.readDomain();
        hasDomain = true;
        return rules.actions.count;
    }

    public int problem() throws IllegalStateException, IllegalArgumentException, UnsupportedOperationException {
        if (!hasDomain) {
            throw new IllegalStateException("there is no domain");
        }
        forgetProblem();
        reader.readProblem();
        if (!scene.build(rules, task)) {
            throw new UnsupportedOperationException("too many facts or steps");
        }
        hasProblem = true;
        return scene.stepCount;
    }

    public int fault() {
        return tokens.faultMet();
    }

    public int plan(int states) throws IllegalStateException, IllegalArgumentException, UnsupportedOperationException {
        requireProblem();
        if (states < 1 || states > MOST_STATES) {
            throw new IllegalArgumentException("states is not 1 .. 200");
        }
        toldLength = 0;
        search.look(states);
        if (search.isCrowded()) {
            throw new UnsupportedOperationException("more states than allowed");
        }
        if (!search.hasFound()) {
            return -1;
        }
        for (int k = 0; k < search.foundLength(); k++) {
            tellStep(scene.list[search.foundStep(k)]);
        }
        return search.foundCost();
    }

    public int steps() throws NoSuchElementException {
        if (!search.hasFound()) {
            throw new NoSuchElementException("there is no plan");
        }
        return search.foundLength();
    }

    public int step(int k) throws NoSuchElementException {
        if (!search.hasFound() || k < 0 || k >= search.foundLength()) {
            throw new NoSuchElementException("no such step of a plan");
        }
        return search.foundStep(k);
    }

    public int ground(int step, int what) throws NoSuchElementException, IllegalArgumentException {
        if (!hasStep(step)) {
            throw new NoSuchElementException("no such step");
        }
        if (what < 0 || what > 4) {
            throw new IllegalArgumentException("no such what");
        }
        Step chosen = scene.list[step];
        if (what == 0) {
            return chosen.action;
        }
        return what == 4 ? chosen.cost : chosen.objects[what - 1];
    }

    public char letter(int i) throws IndexOutOfBoundsException {
        if (i < 0 || i >= toldLength) {
            throw new IndexOutOfBoundsException("no such letter of a plan");
        }
        return told[i];
    }

    public boolean put(int step) {
        if (!hasStep(step) || rowLength >= MOST_ROW) {
            return false;
        }
        row[rowLength] = step;
        rowLength++;
        return true;
    }

    public int check() throws IllegalStateException {
        requireProblem();
        int length = rowLength;
        rowLength = 0;
        long state = scene.firstState;
        int cost = 0;
        for (int k = 0; k < length; k++) {
            Step next = scene.list[row[k]];
            if (!next.needs.holdIn(state)) {
                return -1 - k;
            }
            state = next.stateAfter(state);
            cost += next.cost;
        }
        return scene.goal.holdIn(state) ? cost : GOAL_MISSED;
    }

    public int estimate(int what) throws IllegalStateException, IllegalArgumentException {
        requireProblem();
        if (what < 0 || what > 1) {
            throw new IllegalArgumentException("no such what");
        }
        return guess.fromFirstState(what == 1);
    }

    private void requireProblem() {
        if (!hasProblem) {
            throw new IllegalStateException("there is no problem");
        }
    }

    private boolean hasStep(int number) {
        return hasProblem && number >= 0 && number < scene.stepCount;
    }

    private void forgetProblem() {
        hasProblem = false;
        search.forget();
        toldLength = 0;
        rowLength = 0;
    }

    private void tellStep(Step next) {
        tell('(');
        tellName(rules.actions.codes[next.action]);
        for (int k = 0; k < Domain.MOST_ACTION_PARAMETERS; k++) {
            if (next.objects[k] >= 0) {
                tell(' ');
                tellName(task.objects.codes[next.objects[k]]);
            }
        }
        tell(')');
        tell('\n');
    }

    private void tellName(long code) {
        for (int shift = Tokens.TOP_SHIFT; shift >= 0; shift -= 8) {
            int character = (int) (code >>> shift) & 255;
            if (character != 0) {
                tell((char) character);
            }
        }
    }

    private void tell(char character) {
        if (toldLength < told.length) {
            told[toldLength] = character;
            toldLength++;
        }
    }

    /** The text that was typed, the tokens it is cut into, and the one that is looked at. */
    private static final class Tokens {
        static final int OPEN = 0;
        static final int CLOSE = 1;
        static final int NAME = 2;
        static final int VARIABLE = 3;
        static final int OTHER = 4;
        static final int END = 5;

        static final int FORM = 1;
        static final int NEW = 2;
        static final int UNKNOWN = 3;
        static final int TYPE = 4;
        static final int TWICE = 5;

        static final int MOST_CHARACTERS = 600;
        static final int MOST_NAME = 6;
        /** A name is kept as one number, a byte a character, the first one highest. */
        static final int TOP_SHIFT = 8 * (MOST_NAME - 1);

        private final char[] typed = new char[MOST_CHARACTERS];
        private int length;
        private final int[] kinds = new int[MOST_CHARACTERS + 1];
        private final int[] starts = new int[MOST_CHARACTERS + 1];
        private final int[] ends = new int[MOST_CHARACTERS + 1];
        private final long[] codes = new long[MOST_CHARACTERS + 1];
        private int count;
        private int at;
        private int met;

        int size() {
            return length;
        }

        void shorten(int size) {
            length = size;
        }

        int faultMet() {
            return met;
        }

        boolean take(int number) {
            for (int shift = 24; shift >= 0; shift -= 8) {
                int code = number >>> shift & 255;
                if (code != 0 && !takeCode(code)) {
                    return false;
                }
            }
            return true;
        }

        private boolean takeCode(int code) {
            if (code < 32 || code > 126 || length >= MOST_CHARACTERS) {
                return false;
            }
            typed[length] = (char) code;
            length++;
            return true;
        }

        /** Cuts the text into tokens; it is empty then, and no fault is met yet. */
        void cut() {
            count = 0;
            at = 0;
            met = 0;
            int start = -1;
            for (int i = 0; i < length; i++) {
                char c = typed[i];
                boolean inWord = c != ' ' && c != '(' && c != ')';
                if (inWord && start < 0) {
                    start = i;
                }
                if (!inWord && start >= 0) {
                    addWord(start, i);
                    start = -1;
                }
                if (c == '(' || c == ')') {
                    add(c == '(' ? OPEN : CLOSE, i, i + 1, 0);
                }
            }
            if (start >= 0) {
                addWord(start, length);
            }
            add(END, length, length, 0);
            length = 0;
        }

        private void addWord(int start, int end) {
            boolean marked = typed[start] == '?';
            long code = nameCode(marked ? start + 1 : start, end);
            int kind = marked ? VARIABLE : NAME;
            add(code == 0 ? OTHER : kind, start, end, code);
        }

        /** The number that a name is kept as; 0 if the characters make no name. */
        private long nameCode(int start, int end) {
            if (end - start > MOST_NAME) {
                return 0;
            }
            long code = 0;
            for (int i = start; i < end; i++) {
                char c = typed[i];
                boolean fits = c >= 'a' && c <= 'z' || c >= '0' && c <= '9';
                if (!fits) {
                    return 0;
                }
                code = code << 8 | c;
            }
            return code;
        }

        private void add(int kind, int start, int end, long code) {
            kinds[count] = kind;
            starts[count] = start;
            ends[count] = end;
            codes[count] = code;
            count++;
        }

        boolean sees(int kind) {
            return kinds[at] == kind;
        }

        boolean says(String word) {
            int start = starts[at];
            if (ends[at] - start != word.length()) {
                return false;
            }
            for (int i = 0; i < word.length(); i++) {
                if (typed[start + i] != word.charAt(i)) {
                    return false;
                }
            }
            return true;
        }

        long code() {
            return codes[at];
        }

        /** The number that the token is, if it has 1 to 3 digits; else 0. */
        int number() {
            int value = 0;
            if (ends[at] - starts[at] > 3) {
                return 0;
            }
            for (int i = starts[at]; i < ends[at]; i++) {
                int digit = typed[i] - '0';
                if (digit < 0 || digit > 9) {
                    return 0;
                }
                value = value * 10 + digit;
            }
            return value;
        }

        void skip() {
            if (at < count - 1) {
                at++;
            }
        }

        void want(int kind) {
            if (kinds[at] != kind) {
                fail(FORM);
            }
            skip();
        }

        void wantWord(String word) {
            if (!says(word)) {
                fail(FORM);
            }
            skip();
        }

        void fail(int number) {
            met = number + 10 * starts[at];
            throw new IllegalArgumentException("the text has a fault");
        }
    }

    /** Names of one kind in the order they were told, each with the number of its type. */
    private static final class Names {
        static final int ANY = -1;

        final long[] codes;
        final int[] types;
        int count;

        Names(int room) {
            codes = new long[room];
            types = new int[room];
        }

        void clear() {
            count = 0;
        }

        int find(long code) {
            for (int i = 0; i < count; i++) {
                if (codes[i] == code) {
                    return i;
                }
            }
            return -1;
        }

        void add(long code) {
            if (count < codes.length) {
                codes[count] = code;
                types[count] = ANY;
                count++;
            }
        }

        void setLastType(int type) {
            if (count > 0) {
                types[count - 1] = type;
            }
        }

        boolean fits(int which, int type) {
            return type == ANY || types[which] == type;
        }
    }

    /** The literals of a condition, the changes of an effect, or the atoms of :init. */
    private static final class Clause {
        static final int EQUAL = -1;
        static final int NO_TERM = -1;
        static final int NO_COST = 0;

        final int[] predicates;
        final boolean[] nots;
        final int[] firsts;
        final int[] seconds;
        int count;
        int cost;

        Clause(int room) {
            predicates = new int[room];
            nots = new boolean[room];
            firsts = new int[room];
            seconds = new int[room];
        }

        void clear() {
            count = 0;
            cost = NO_COST;
        }

        void add(int predicate, boolean not, int first, int second) {
            if (count < predicates.length) {
                predicates[count] = predicate;
                nots[count] = not;
                firsts[count] = first;
                seconds[count] = second;
                count++;
            }
        }
    }

    /** A domain as it was read. */
    private static final class Domain {
        static final int MOST_TYPES = 4;
        static final int MOST_PREDICATES = 6;
        static final int MOST_PREDICATE_PARAMETERS = 2;
        static final int MOST_ACTIONS = 5;
        static final int MOST_ACTION_PARAMETERS = 3;
        static final int MOST_LITERALS = 4;

        long name;
        final Names types = new Names(MOST_TYPES);
        final Names predicates = new Names(MOST_PREDICATES);
        final Names[] predicateParameters = new Names[MOST_PREDICATES];
        final Names actions = new Names(MOST_ACTIONS);
        final Names[] actionParameters = new Names[MOST_ACTIONS];
        final Clause[] conditions = new Clause[MOST_ACTIONS];
        final Clause[] effects = new Clause[MOST_ACTIONS];

        Domain() {
            for (int i = 0; i < MOST_PREDICATES; i++) {
                predicateParameters[i] = new Names(MOST_PREDICATE_PARAMETERS);
            }
            for (int i = 0; i < MOST_ACTIONS; i++) {
                actionParameters[i] = new Names(MOST_ACTION_PARAMETERS);
                conditions[i] = new Clause(MOST_LITERALS);
                effects[i] = new Clause(MOST_LITERALS);
            }
        }

        void clear() {
            types.clear();
            predicates.clear();
            actions.clear();
        }
    }

    /** A problem as it was read. */
    private static final class Problem {
        static final int MOST_OBJECTS = 6;
        static final int MOST_INIT = 12;

        final Names objects = new Names(MOST_OBJECTS);
        final Clause init = new Clause(MOST_INIT);
        final Clause goal = new Clause(Domain.MOST_LITERALS);

        void clear() {
            objects.clear();
            init.clear();
            goal.clear();
        }
    }

    /** Reads a text as a domain or a problem; the first fault leaves by an exception. */
    private static final class Reader {
        private final Tokens tokens;
        private final Domain rules;
        private final Problem task;
        private final ClauseReader clauses;

        Reader(Tokens tokens, Domain rules, Problem task) {
            this.tokens = tokens;
            this.rules = rules;
            this.task = task;
            clauses = new ClauseReader(tokens, rules);
        }

        void readDomain() {
            tokens.cut();
            rules.clear();
            openDefinition("domain");
            rules.name = tokens.code();
            tokens.want(Tokens.NAME);
            tokens.want(Tokens.CLOSE);
            tokens.want(Tokens.OPEN);
            if (tokens.says(":types")) {
                readTypes();
                tokens.want(Tokens.OPEN);
            }
            readPredicates();
            for (int i = 0; i < Domain.MOST_ACTIONS && (i == 0 || tokens.sees(Tokens.OPEN)); i++) {
                readAction(i);
            }
            closeDefinition();
        }

        private void openDefinition(String kind) {
            tokens.want(Tokens.OPEN);
            tokens.wantWord("define");
            tokens.want(Tokens.OPEN);
            tokens.wantWord(kind);
        }

        private void closeDefinition() {
            tokens.want(Tokens.CLOSE);
            tokens.want(Tokens.END);
        }

        private void readTypes() {
            tokens.wantWord(":types");
            for (int i = 0; i < Domain.MOST_TYPES && (i == 0 || !tokens.sees(Tokens.CLOSE)); i++) {
                readNew(rules.types, Tokens.NAME);
            }
            tokens.want(Tokens.CLOSE);
        }

        private void readPredicates() {
            tokens.wantWord(":predicates");
            for (int i = 0; i < Domain.MOST_PREDICATES && (i == 0 || tokens.sees(Tokens.OPEN)); i++) {
                tokens.want(Tokens.OPEN);
                readNew(rules.predicates, Tokens.NAME);
                readParameters(rules.predicateParameters[i], Domain.MOST_PREDICATE_PARAMETERS);
                tokens.want(Tokens.CLOSE);
            }
            tokens.want(Tokens.CLOSE);
        }

        private void readAction(int i) {
            tokens.want(Tokens.OPEN);
            tokens.wantWord(":action");
            readNew(rules.actions, Tokens.NAME);
            tokens.wantWord(":parameters");
            tokens.want(Tokens.OPEN);
            readParameters(rules.actionParameters[i], Domain.MOST_ACTION_PARAMETERS);
            tokens.want(Tokens.CLOSE);
            clauses.useTerms(rules.actionParameters[i], Tokens.VARIABLE);
            rules.conditions[i].clear();
            if (tokens.says(":precondition")) {
                tokens.skip();
                clauses.readClause(rules.conditions[i], false);
            }
            tokens.wantWord(":effect");
            clauses.readClause(rules.effects[i], true);
            tokens.want(Tokens.CLOSE);
        }

        private void readParameters(Names parameters, int most) {
            parameters.clear();
            for (int i = 0; i < most && !tokens.sees(Tokens.CLOSE); i++) {
                readTyped(parameters, Tokens.VARIABLE);
            }
        }

        private void readTyped(Names names, int kind) {
            readNew(names, kind);
            if (tokens.says("-")) {
                tokens.skip();
                names.setLastType(readType());
            }
        }

        private void readNew(Names names, int kind) {
            if (!tokens.sees(kind)) {
                tokens.fail(Tokens.FORM);
            }
            if (names.find(tokens.code()) >= 0) {
                tokens.fail(Tokens.NEW);
            }
            names.add(tokens.code());
            tokens.skip();
        }

        private int readType() {
            if (!tokens.sees(Tokens.NAME)) {
                tokens.fail(Tokens.FORM);
            }
            int type = rules.types.find(tokens.code());
            if (type < 0) {
                tokens.fail(Tokens.UNKNOWN);
            }
            tokens.skip();
            return type;
        }

        void readProblem() {
            tokens.cut();
            task.clear();
            openDefinition("problem");
            tokens.want(Tokens.NAME);
            tokens.want(Tokens.CLOSE);
            readDomainName();
            readObjects();
            clauses.useTerms(task.objects, Tokens.NAME);
            openPart(":init");
            clauses.readAtoms(task.init, Problem.MOST_INIT);
            tokens.want(Tokens.CLOSE);
            openPart(":goal");
            clauses.readClause(task.goal, false);
            tokens.want(Tokens.CLOSE);
            closeDefinition();
        }

        private void openPart(String word) {
            tokens.want(Tokens.OPEN);
            tokens.wantWord(word);
        }

        private void readDomainName() {
            openPart(":domain");
            if (tokens.sees(Tokens.NAME) && tokens.code() != rules.name) {
                tokens.fail(Tokens.UNKNOWN);
            }
            tokens.want(Tokens.NAME);
            tokens.want(Tokens.CLOSE);
        }

        private void readObjects() {
            openPart(":objects");
            for (int i = 0; i < Problem.MOST_OBJECTS && (i == 0 || !tokens.sees(Tokens.CLOSE)); i++) {
                readTyped(task.objects, Tokens.NAME);
            }
            tokens.want(Tokens.CLOSE);
        }
    }

    /** Reads conditions, effects and atoms whose terms are the variables or objects in use. */
    private static final class ClauseReader {
        private final Tokens tokens;
        private final Domain rules;
        private Names terms;
        private int termKind;

        ClauseReader(Tokens tokens, Domain rules) {
            this.tokens = tokens;
            this.rules = rules;
            terms = rules.types;
            termKind = Tokens.NAME;
        }

        void useTerms(Names names, int kind) {
            terms = names;
            termKind = kind;
        }

        void readClause(Clause into, boolean effect) {
            into.clear();
            tokens.want(Tokens.OPEN);
            if (!tokens.says("and")) {
                readMember(into, effect);
                return;
            }
            tokens.skip();
            for (int i = 0; i < Domain.MOST_LITERALS && (i == 0 || tokens.sees(Tokens.OPEN)); i++) {
                tokens.want(Tokens.OPEN);
                readMember(into, effect);
            }
            tokens.want(Tokens.CLOSE);
        }

        /** Reads a literal of a condition or a change of an effect behind its first parenthesis. */
        private void readMember(Clause into, boolean effect) {
            if (effect && tokens.says("increase")) {
                readIncrease(into);
                return;
            }
            boolean not = tokens.says("not");
            if (not) {
                tokens.skip();
                tokens.want(Tokens.OPEN);
            }
            if (!effect && tokens.says("=")) {
                readEquality(into, not);
            } else {
                readAtom(into, not);
            }
            if (not) {
                tokens.want(Tokens.CLOSE);
            }
        }

        void readAtoms(Clause into, int most) {
            for (int i = 0; i < most && tokens.sees(Tokens.OPEN); i++) {
                tokens.skip();
                readAtom(into, false);
            }
        }

        private void readAtom(Clause into, boolean not) {
            if (!tokens.sees(Tokens.NAME)) {
                tokens.fail(Tokens.FORM);
            }
            int predicate = rules.predicates.find(tokens.code());
            if (predicate < 0) {
                tokens.fail(Tokens.UNKNOWN);
            }
            tokens.skip();
            Names parameters = rules.predicateParameters[predicate];
            int first = parameters.count > 0 ? readTerm(parameters.types[0]) : Clause.NO_TERM;
            int second = parameters.count > 1 ? readTerm(parameters.types[1]) : Clause.NO_TERM;
            tokens.want(Tokens.CLOSE);
            into.add(predicate, not, first, second);
        }

        private void readEquality(Clause into, boolean not) {
            tokens.skip();
            int first = readTerm(Names.ANY);
            int second = readTerm(Names.ANY);
            tokens.want(Tokens.CLOSE);
            into.add(Clause.EQUAL, not, first, second);
        }

        private int readTerm(int type) {
            if (!tokens.sees(termKind)) {
                tokens.fail(Tokens.FORM);
            }
            int term = terms.find(tokens.code());
            if (term < 0) {
                tokens.fail(Tokens.UNKNOWN);
            }
            if (!terms.fits(term, type)) {
                tokens.fail(Tokens.TYPE);
            }
            tokens.skip();
            return term;
        }

        private void readIncrease(Clause into) {
            if (into.cost != Clause.NO_COST) {
                tokens.fail(Tokens.TWICE);
            }
            tokens.skip();
            tokens.want(Tokens.OPEN);
            tokens.wantWord("total-cost");
            tokens.want(Tokens.CLOSE);
            into.cost = tokens.number();
            if (into.cost == Clause.NO_COST) {
                tokens.fail(Tokens.FORM);
            }
            tokens.skip();
            tokens.want(Tokens.CLOSE);
        }
    }

    /** A condition with objects for its terms. */
    private static final class Needs {
        private long inside;
        private long outside;
        private boolean equalitiesHold;
        /** Beside the set of them the atoms one by one: an estimate counts one told twice twice. */
        final int[] atoms = new int[Domain.MOST_LITERALS];
        int atomCount;

        void bind(Clause clause, int[] objects, Ground scene) {
            inside = 0;
            outside = 0;
            equalitiesHold = true;
            atomCount = 0;
            for (int i = 0; i < clause.count; i++) {
                if (clause.predicates[i] == Clause.EQUAL) {
                    boolean same = objects[clause.firsts[i]] == objects[clause.seconds[i]];
                    equalitiesHold = equalitiesHold && same != clause.nots[i];
                } else {
                    bindAtom(scene.factOf(clause, i, objects), clause.nots[i]);
                }
            }
        }

        private void bindAtom(int fact, boolean not) {
            if (not) {
                outside |= 1L << fact;
                return;
            }
            inside |= 1L << fact;
            atoms[atomCount] = fact;
            atomCount++;
        }

        boolean canHold() {
            return equalitiesHold;
        }

        boolean holdIn(long state) {
            return equalitiesHold && (state & inside) == inside && (state & outside) == 0;
        }
    }

    /** An action with an object for each parameter. */
    private static final class Step {
        int action;
        /** -1 for parameters that the action has not. */
        final int[] objects = new int[Domain.MOST_ACTION_PARAMETERS];
        int cost;
        final Needs needs = new Needs();
        private long going;
        private long coming;
        final int[] comers = new int[Domain.MOST_LITERALS];
        int comerCount;

        /** Takes the objects of one way to choose them: a number whose digits they are. */
        void choose(int which, int way, int parameterCount, int objectCount) {
            action = which;
            Arrays.fill(objects, -1);
            int base = Math.max(1, objectCount);
            int rest = way;
            for (int k = parameterCount - 1; k >= 0; k--) {
                objects[k] = rest % base;
                rest /= base;
            }
        }

        boolean fits(Names parameters, Names told) {
            for (int k = 0; k < parameters.count; k++) {
                if (!told.fits(objects[k], parameters.types[k])) {
                    return false;
                }
            }
            return true;
        }

        void bindEffect(Clause effect, Ground scene) {
            cost = effect.cost == Clause.NO_COST ? 1 : effect.cost;
            going = 0;
            coming = 0;
            comerCount = 0;
            for (int i = 0; i < effect.count; i++) {
                int fact = scene.factOf(effect, i, objects);
                if (effect.nots[i]) {
                    going |= 1L << fact;
                } else {
                    coming |= 1L << fact;
                    comers[comerCount] = fact;
                    comerCount++;
                }
            }
        }

        long stateAfter(long state) {
            return state & ~going | coming;
        }
    }

    /** The facts, steps, first state and goal of a problem; a state is a set of facts' bits. */
    private static final class Ground {
        static final int MOST_FACTS = 40;
        static final int MOST_STEPS = 40;

        private final int[] factNumbers =
            new int[Domain.MOST_PREDICATES * Problem.MOST_OBJECTS * Problem.MOST_OBJECTS];
        int factCount;
        /** One more than there may be, for the step that is being tried. */
        final Step[] list = new Step[MOST_STEPS + 1];
        int stepCount;
        long firstState;
        final Needs goal = new Needs();
        /** In a problem the terms are the objects themselves. */
        private final int[] itself = new int[Problem.MOST_OBJECTS];

        Ground() {
            for (int i = 0; i <= MOST_STEPS; i++) {
                list[i] = new Step();
            }
            for (int i = 0; i < Problem.MOST_OBJECTS; i++) {
                itself[i] = i;
            }
        }

        /** False if there are too many facts or steps. */
        boolean build(Domain rules, Problem task) {
            if (!numberFacts(rules, task.objects) || !makeSteps(rules, task.objects)) {
                return false;
            }
            firstState = 0;
            for (int i = 0; i < task.init.count; i++) {
                firstState |= 1L << factOf(task.init, i, itself);
            }
            goal.bind(task.goal, itself, this);
            return true;
        }

        private boolean numberFacts(Domain rules, Names objects) {
            factCount = 0;
            for (int predicate = 0; predicate < rules.predicates.count; predicate++) {
                if (!numberFactsOf(predicate, rules.predicateParameters[predicate], objects)) {
                    return false;
                }
            }
            return true;
        }

        private boolean numberFactsOf(int predicate, Names parameters, Names objects) {
            int firstCount = parameters.count > 0 ? objects.count : 1;
            int secondCount = parameters.count > 1 ? objects.count : 1;
            for (int first = 0; first < firstCount; first++) {
                for (int second = 0; second < secondCount; second++) {
                    boolean fits = (parameters.count < 1 || objects.fits(first, parameters.types[0]))
                        && (parameters.count < 2 || objects.fits(second, parameters.types[1]));
                    if (fits && factCount >= MOST_FACTS) {
                        return false;
                    }
                    if (fits) {
                        factNumbers[placeOf(predicate, first, second)] = factCount;
                        factCount++;
                    }
                }
            }
            return true;
        }

        private static int placeOf(int predicate, int first, int second) {
            return (predicate * Problem.MOST_OBJECTS + first) * Problem.MOST_OBJECTS + second;
        }

        int factOf(Clause clause, int i, int[] objects) {
            int first = clause.firsts[i] == Clause.NO_TERM ? 0 : objects[clause.firsts[i]];
            int second = clause.seconds[i] == Clause.NO_TERM ? 0 : objects[clause.seconds[i]];
            return factNumbers[placeOf(clause.predicates[i], first, second)];
        }

        private boolean makeSteps(Domain rules, Names objects) {
            stepCount = 0;
            for (int action = 0; action < rules.actions.count; action++) {
                if (!makeStepsOf(action, rules, objects)) {
                    return false;
                }
            }
            return true;
        }

        private boolean makeStepsOf(int action, Domain rules, Names objects) {
            Names parameters = rules.actionParameters[action];
            int ways = 1;
            for (int k = 0; k < parameters.count; k++) {
                ways *= objects.count;
            }
            for (int way = 0; way < ways; way++) {
                Step tried = list[stepCount];
                tried.choose(action, way, parameters.count, objects.count);
                if (tried.fits(parameters, objects) && bindStep(tried, rules)) {
                    stepCount++;
                }
                if (stepCount > MOST_STEPS) {
                    return false;
                }
            }
            return true;
        }

        /** False if its = or not = does not hold, so that it is no step. */
        private boolean bindStep(Step tried, Domain rules) {
            tried.needs.bind(rules.conditions[tried.action], tried.objects, this);
            tried.bindEffect(rules.effects[tried.action], this);
            return tried.needs.canHold();
        }
    }

    /**
     * Looks for the plan in layers of states that have the same least cost. A state is gone on from
     * once for each price that steps have, when the sum of both is the layer's cost; so no state is
     * kept but those that are cheaper than the plan, and the layer's own.
     */
    private static final class Search {
        private static final int SLOTS = 512;
        private static final int SLOT_SHIFT = 55;
        private static final long SPREAD = 0x9E3779B97F4A7C15L;
        private static final int NEVER = Integer.MAX_VALUE;
        /** The goal's entry stands behind those of the states. */
        private static final int GOAL = MOST_STATES;
        /** Each layer goes on from a state at one of its prices, of which there is one an action. */
        private static final int MOST_LAYERS = MOST_STATES * Domain.MOST_ACTIONS;

        private final Ground scene;
        private final long[] states = new long[MOST_STATES];
        private final int[] costs = new int[MOST_STATES];
        private final int[] dues = new int[MOST_STATES];
        private final int[] lengths = new int[MOST_STATES + 1];
        private final int[] parents = new int[MOST_STATES + 1];
        private final int[] lastSteps = new int[MOST_STATES + 1];
        private final int[] slots = new int[SLOTS];
        private int count;
        private int limit;
        private boolean crowded;
        private boolean found;
        private int cost;
        private final int[] steps = new int[MOST_STATES];

        Search(Ground scene) {
            this.scene = scene;
        }

        boolean isCrowded() {
            return crowded;
        }

        boolean hasFound() {
            return found;
        }

        int foundCost() {
            return cost;
        }

        int foundLength() {
            return lengths[GOAL];
        }

        int foundStep(int k) {
            return steps[k];
        }

        void forget() {
            found = false;
            crowded = false;
            count = 0;
            lengths[GOAL] = NEVER;
            Arrays.fill(slots, 0);
        }

        void look(int most) {
            forget();
            limit = most;
            cost = 0;
            if (scene.goal.holdIn(scene.firstState)) {
                found = true;
                lengths[GOAL] = 0;
                return;
            }
            add(slotOf(scene.firstState), scene.firstState, 0);
            for (int layer = 0; layer <= MOST_LAYERS && !found && !crowded; layer++) {
                cost = leastDue();
                if (cost == NEVER) {
                    return;
                }
                goOn();
            }
            if (found) {
                crowded = false;
                traceSteps();
            }
        }

        private int leastDue() {
            int least = NEVER;
            for (int i = 0; i < count; i++) {
                least = Math.min(least, dues[i]);
            }
            return least;
        }

        private void goOn() {
            // The states that come in this layer are due in later ones alone.
            int before = count;
            for (int i = 0; i < before; i++) {
                if (dues[i] == cost) {
                    goOnFrom(i, cost - costs[i]);
                }
            }
        }

        private void goOnFrom(int from, int price) {
            for (int number = 0; number < scene.stepCount; number++) {
                Step next = scene.list[number];
                if (next.cost == price && next.needs.holdIn(states[from])) {
                    comeTo(next.stateAfter(states[from]), from, number);
                }
            }
            setDue(from, price);
        }

        private void setDue(int which, int price) {
            int higher = NEVER;
            for (int number = 0; number < scene.stepCount; number++) {
                int other = scene.list[number].cost;
                if (other > price && other < higher) {
                    higher = other;
                }
            }
            dues[which] = higher == NEVER ? NEVER : costs[which] + higher;
        }

        private void comeTo(long state, int from, int number) {
            if (scene.goal.holdIn(state)) {
                found = true;
                offer(GOAL, from, number);
                return;
            }
            int slot = slotOf(state);
            if (slots[slot] != 0) {
                int known = slots[slot] - 1;
                if (costs[known] == cost) {
                    offer(known, from, number);
                }
            } else if (count < limit) {
                add(slot, state, cost);
                offer(count - 1, from, number);
            } else {
                crowded = true;
            }
        }

        /** The slot that holds the state, or the free one where it belongs. */
        private int slotOf(long state) {
            int slot = (int) (state * SPREAD >>> SLOT_SHIFT);
            for (int tries = 0; tries < SLOTS; tries++) {
                if (slots[slot] == 0 || states[slots[slot] - 1] == state) {
                    return slot;
                }
                slot = (slot + 1) % SLOTS;
            }
            return slot;
        }

        private void add(int slot, long state, int stateCost) {
            states[count] = state;
            costs[count] = stateCost;
            lengths[count] = count == 0 ? 0 : NEVER;
            parents[count] = 0;
            setDue(count, 0);
            slots[slot] = count + 1;
            count++;
        }

        /** Takes a way to an entry if it has fewer steps than the known one, or is first in order. */
        private void offer(int which, int from, int number) {
            int length = lengths[from] + 1;
            if (length < lengths[which] || length == lengths[which] && isBefore(from, number, which)) {
                lengths[which] = length;
                parents[which] = from;
                lastSteps[which] = number;
            }
        }

        /** Of two ways with as many steps: whether the new one is before the known one. */
        private boolean isBefore(int from, int number, int which) {
            int difference = number - lastSteps[which];
            int one = from;
            int other = parents[which];
            // From back to front, so that the foremost difference is the last one seen.
            for (int k = 0; k < MOST_STATES && one != other; k++) {
                if (lastSteps[one] != lastSteps[other]) {
                    difference = lastSteps[one] - lastSteps[other];
                }
                one = parents[one];
                other = parents[other];
            }
            return difference < 0;
        }

        private void traceSteps() {
            int which = GOAL;
            for (int k = lengths[GOAL] - 1; k >= 0; k--) {
                steps[k] = lastSteps[which];
                which = parents[which];
            }
        }
    }

    /** What the goal costs if nothing ever goes. */
    private static final class Estimate {
        private static final int MOST = 100000;
        private static final int NEVER = Integer.MAX_VALUE;

        private final Ground scene;
        private final int[] worths = new int[Ground.MOST_FACTS];

        Estimate(Ground scene) {
            this.scene = scene;
        }

        int fromFirstState(boolean adding) {
            for (int fact = 0; fact < scene.factCount; fact++) {
                worths[fact] = (scene.firstState >>> fact & 1) != 0 ? 0 : NEVER;
            }
            // In each round one fact more at least has what it costs: the cheapest that had not.
            boolean changed = true;
            for (int round = 0; round <= Ground.MOST_FACTS && changed; round++) {
                changed = lowerAll(adding);
            }
            int worth = worthOf(scene.goal, adding);
            return worth == NEVER ? -1 : worth;
        }

        private boolean lowerAll(boolean adding) {
            boolean changed = false;
            for (int number = 0; number < scene.stepCount; number++) {
                Step next = scene.list[number];
                int before = worthOf(next.needs, adding);
                if (before != NEVER && lowerComers(next, Math.min(MOST, before + next.cost))) {
                    changed = true;
                }
            }
            return changed;
        }

        private boolean lowerComers(Step next, int worth) {
            boolean changed = false;
            for (int k = 0; k < next.comerCount; k++) {
                int fact = next.comers[k];
                if (worth < worths[fact]) {
                    worths[fact] = worth;
                    changed = true;
                }
            }
            return changed;
        }

        /** At most what is told at most: sums could pass all numbers, and lower ones do not hang on it. */
        private int worthOf(Needs needs, boolean adding) {
            int all = 0;
            for (int k = 0; k < needs.atomCount; k++) {
                int worth = worths[needs.atoms[k]];
                if (worth == NEVER) {
                    return NEVER;
                }
                all = adding ? all + worth : Math.max(all, worth);
            }
            return Math.min(MOST, all);
        }
    }
}
