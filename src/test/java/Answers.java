import java.util.ArrayList;
import java.util.IdentityHashMap;
import java.util.List;
import java.util.Map;
import java.util.function.Function;
import java.util.function.Supplier;

/** All that an object answers; it is made anew before it has been called too often. */
final class Answers {
    /** An object is used for at most 512 calls, and to make one takes up to some hundred. */
    private static final int ASKED_OF_ONE = 300;
    /** Of more STATEMENTS only some are asked what each variable is there: digest() tells the sum of all. */
    private static final int MOST_ASKED_EACH = 20;
    private static final Map<Supplier<Ironwood>, List<String>> KNOWN = new IdentityHashMap<>();

    private final Supplier<Ironwood> maker;
    private final List<String> told = new ArrayList<>();
    /** The numbers of the LOANS, to which -1 is added, which is none. */
    private final List<Integer> loans = new ArrayList<>(List.of(-1));
    private Ironwood now;
    private int left = 0;

    private Answers(Supplier<Ironwood> maker) {
        this.maker = maker;
    }

    /** What is made by one has to answer all calls as what is made by the other. */
    static void same(String what, Supplier<Ironwood> made, Supplier<Ironwood> due) {
        List<String> answers = of(made);
        List<String> dues = KNOWN.computeIfAbsent(due, Answers::of);
        Expect.same(what + ": answers", answers.size(), dues.size());
        for (int k = 0; k < Math.min(answers.size(), dues.size()); k++) {
            Expect.same(what, answers.get(k), dues.get(k));
        }
    }

    private static List<String> of(Supplier<Ironwood> maker) {
        Answers answers = new Answers(maker);
        int variables = (int) answers.ask("variables()", Ironwood::variables);
        int statements = (int) answers.ask("statements()", Ironwood::statements);
        answers.askAll();
        for (int statement = -1; statement <= statements; statement++) {
            answers.askStatement(statement);
        }
        int step = statements > MOST_ASKED_EACH ? 7 : 1;
        for (int statement = 0; statement < statements; statement += step) {
            answers.askLoans(statement);
            for (int variable = 0; variable < variables; variable++) {
                answers.askVariable(statement, variable);
            }
        }
        return answers.told;
    }

    private Object ask(String call, Function<Ironwood, Object> asked) {
        if (left == 0) {
            now = maker.get();
            left = ASKED_OF_ONE;
        }
        left--;
        Object answer;
        try {
            answer = asked.apply(now);
        } catch (RuntimeException thrown) {
            answer = thrown.getClass().getSimpleName();
        }
        told.add(call + " answers " + answer);
        return answer;
    }

    private void askAll() {
        ask("loans()", Ironwood::loans);
        ask("culprit()", Ironwood::culprit);
        ask("density()", Ironwood::density);
        ask("digest()", Ironwood::digest);
        for (int each = 0; each <= 7; each++) {
            int code = each;
            ask("faultsOf(" + code + ")", x -> x.faultsOf(code));
        }
        int faults = (int) ask("faults()", Ironwood::faults);
        for (int each = 0; each <= faults; each++) {
            for (int number = 0; number <= 6; number++) {
                int fault = each;
                int what = number;
                ask("ofFault(" + fault + ", " + what + ")", x -> x.ofFault(fault, what));
            }
        }
    }

    private void askStatement(int s) {
        Object code = ask("codeOf(" + s + ")", x -> x.codeOf(s));
        if (code.equals(2) || code.equals(3)) {
            loans.add(s);
        }
        ask("isReached(" + s + ")", x -> x.isReached(s));
        ask("awaited(" + s + ")", x -> x.awaited(s));
        ask("faultsAt(" + s + ")", x -> x.faultsAt(s));
        ask("without(" + s + ")", x -> x.without(s));
        ask("copied(" + s + ")", x -> x.copied(s));
        ask("the target of " + s, x -> targetOf(x, s));
    }

    /** The target is told by setting it anew, and then back. */
    private static int targetOf(Ironwood x, int statement) {
        int target = x.setTarget(statement, 0);
        x.setTarget(statement, target);
        return target;
    }

    private void askLoans(int s) {
        ask("region(" + s + ")", x -> x.region(s));
        for (int loan : loans) {
            ask("isLive(" + loan + ", " + s + ")", x -> x.isLive(loan, s));
        }
    }

    private void askVariable(int s, int v) {
        for (int each = -1; each <= 2; each++) {
            int place = each;
            ask("canBe(" + s + ", " + v + ", " + place + ")", x -> x.canBe(s, v, place));
        }
        ask("holds(" + s + ", " + v + ")", x -> x.holds(s, v));
        for (int loan : loans) {
            ask("canHold(" + s + ", " + v + ", " + loan + ")", x -> x.canHold(s, v, loan));
        }
    }
}
