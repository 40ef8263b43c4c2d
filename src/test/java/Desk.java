import java.util.NoSuchElementException;

/** A planner under test: types texts into it, tells each answer as a text, and counts wrong ones. */
final class Desk {
    /** A call of the planner; what it throws is told as its answer. */
    interface Call {
        Object answer();
    }

    private static int wrong = 0;
    private static int calls = 0;
    private static String sentence = "";
    private static int callsBefore = -1;

    final CheapPlanner planner = new CheapPlanner();

    /** What a call answers, or the name of the exception that it throws. */
    static String told(Call call) {
        calls++;
        try {
            return String.valueOf(call.answer());
        } catch (IllegalStateException | IllegalArgumentException | UnsupportedOperationException
                | NoSuchElementException | IndexOutOfBoundsException e) {
            return e.getClass().getSimpleName();
        }
    }

    /** What follows tests this sentence of the document, and is told with it if it is wrong. */
    static void sentence(String words) {
        if (calls == callsBefore) {
            wrong++;
            System.out.println("no call tests: " + sentence);
        }
        sentence = words;
        callsBefore = calls;
    }

    static void due(String what, Object want, Call call) {
        String got = told(call);
        if (!got.equals(String.valueOf(want))) {
            wrong++;
            System.out.println(what + " answered " + got + ", due is " + want + (sentence.isEmpty() ? "" : ", by: " + sentence));
        }
    }

    /** A planner that has read a domain and a problem in which there is no fault. */
    static Desk ready(String domain, String problem) {
        Desk desk = new Desk();
        if (!desk.domain(domain).matches("[0-9]+") || !desk.problem(problem).matches("[0-9]+")) {
            throw new IllegalStateException("can't be read: " + domain + problem);
        }
        return desk;
    }

    static void end(String name) {
        sentence("");
        System.out.println(name + ": " + calls + " calls, " + wrong + " wrong");
        if (wrong != 0 || calls == 0) {
            System.exit(1);
        }
    }

    /** Types a text of any length; false as soon as a part of it is refused. */
    boolean type(String text) {
        for (int start = 0; start < text.length(); start += 20) {
            int[] numbers = new int[5];
            for (int i = start; i < Math.min(text.length(), start + 20); i++) {
                int k = i - start;
                numbers[k / 4] |= text.charAt(i) << 24 - 8 * (k % 4);
            }
            if (!planner.text(numbers[0], numbers[1], numbers[2], numbers[3], numbers[4])) {
                return false;
            }
        }
        return true;
    }

    String domain(String text) {
        type(text);
        return told(planner::domain);
    }

    String problem(String text) {
        type(text);
        return told(planner::problem);
    }

    /** The whole plan as it is told letter by letter. */
    String letters() {
        StringBuilder all = new StringBuilder();
        for (int i = 0; i < 7000; i++) {
            int at = i;
            String letter = told(() -> planner.letter(at));
            if (letter.length() != 1) {
                return all.toString();
            }
            all.append(letter);
        }
        return all.toString();
    }

    /** The numbers of the plan's steps, each behind a blank. */
    String planSteps() {
        StringBuilder all = new StringBuilder();
        int count = planner.steps();
        for (int k = 0; k < count; k++) {
            all.append(' ').append(planner.step(k));
        }
        return all.toString();
    }

    void dueDomain(Object want, int fault, String text) {
        due("domain of " + text, want, () -> domain(text));
        due("fault of " + text, fault, planner::fault);
    }

    void dueProblem(Object want, int fault, String text) {
        due("problem of " + text, want, () -> problem(text));
        due("fault of " + text, fault, planner::fault);
    }

    /** The text has a mark ^ before the token at which the fault is due. */
    void dueDomainFault(int number, String marked) {
        int place = marked.indexOf('^');
        dueDomain("IllegalArgumentException", number + 10 * place, marked.replace("^", ""));
    }

    void dueProblemFault(int number, String marked) {
        int place = marked.indexOf('^');
        dueProblem("IllegalArgumentException", number + 10 * place, marked.replace("^", ""));
    }

    /** Puts the steps into the row and checks it. */
    void dueCheck(int want, int... steps) {
        StringBuilder row = new StringBuilder("row");
        for (int step : steps) {
            row.append(' ').append(step);
            due(row + ": put", true, () -> planner.put(step));
        }
        due(row + ": check", want, planner::check);
    }
}
