import java.util.ArrayList;
import java.util.List;
import java.util.Random;

/** Long runs of chosen and of wrong calls: Ironwood has to answer each as the model does. */
public final class ModelTest {
    private static final int RUNS = 1500;
    /** An object is used for so many calls; then one is taken to which the same was told. */
    private static final int MOST_CALLS = 512;
    private final Random random;
    private Ironwood program = new Ironwood();
    private int used = 0;
    private final List<Call> tellings = new ArrayList<>();
    private final Model model = new Model();
    private final StringBuilder story = new StringBuilder();
    private int variables;
    private int statements;

    private ModelTest(int seed) {
        random = new Random(seed);
    }

    public static void main(String[] args) {
        int runs = args.length > 0 ? Integer.parseInt(args[0]) : RUNS;
        int faults = 0;
        int[] ofCode = new int[7];
        for (int seed = 0; seed < runs && !Expect.isAnyWrong(); seed++) {
            ModelTest test = new ModelTest(seed);
            test.run(seed);
            faults += test.model.faults();
            for (int code = 1; code <= 6; code++) {
                ofCode[code] += test.model.faultsOf(code);
            }
        }
        for (int code = 1; code <= 6; code++) {
            Expect.yes("there are enough faults of code " + code, ofCode[code] > runs / 20);
        }
        System.out.println(faults + " faults in " + runs + " runs");
        Expect.end("ModelTest");
    }

    private void run(int seed) {
        int first = seed % 40 == 0 ? 0 : 1 + random.nextInt(seed % 3 == 0 ? 12 : 6);
        for (int k = 0; k < first; k++) {
            tellVariable(random.nextInt(4));
        }
        if (seed % 20 == 11) {
            callUpToTheLast();
        } else {
            int calls = seed % 15 == 7 ? 90 : 10 + random.nextInt(60);
            for (int k = 0; k < calls && !Expect.isAnyWrong(); k++) {
                tellOrAsk();
            }
        }
        compareAll();
        if (Expect.isAnyWrong()) {
            System.out.println("seed " + seed + ":" + story);
        }
    }

    private void tellOrAsk() {
        if (random.nextInt(3) != 0) {
            tell();
        } else {
            ask();
        }
    }

    /** One object is used for as many calls as it may be; the last one tells the sum of all. */
    private void callUpToTheLast() {
        while (used < MOST_CALLS - 4 && !Expect.isAnyWrong()) {
            if (statements > 20 + random.nextInt(20) && random.nextBoolean()) {
                tellSame("undo()", () -> program.undo(), model::undo);
                statements = model.statements.size();
            } else {
                tellOrAsk();
            }
        }
        while (used < MOST_CALLS - 1) {
            same("culprit()", () -> program.culprit(), model::culprit);
        }
        compareDigest();
        Expect.yes("all calls are made", used == MOST_CALLS || Expect.isAnyWrong());
    }

    private interface Call {
        double answer();
    }

    private void same(String call, Call got, Call due) {
        countCall();
        story.append(' ').append(call).append(';');
        Expect.same(call, outcome(call, got), outcome(call, due));
    }

    private void tellSame(String call, Call got, Call due) {
        same(call, got, due);
        tellings.add(got);
    }

    private void compareDigest() {
        countCall();
        Expect.same("digest()", program.digest(), model.digest());
    }

    private void countCall() {
        if (used == MOST_CALLS) {
            program = new Ironwood();
            for (Call telling : tellings) {
                outcome("telling again", telling);
            }
            used = tellings.size();
        }
        used++;
    }

    /** An exception counts as a number below all answers. */
    private static double outcome(String call, Call made) {
        try {
            return made.answer();
        } catch (Model.Refused refused) {
            return below(refused.getMessage());
        } catch (RuntimeException thrown) {
            return below(thrown.getClass().getSimpleName());
        }
    }

    private static double below(String name) {
        return switch (name) {
            case Model.INDEX -> -1e300;
            case Model.ARGUMENT -> -2e300;
            case Model.STATE -> -3e300;
            default -> throw new AssertionError(name);
        };
    }

    private int anyVariable() {
        return random.nextInt(60) == 0 ? random.nextInt(16) - 2 : random.nextInt(Math.max(variables, 1));
    }

    private int variableOrNone() {
        return random.nextInt(4) == 0 ? -1 : anyVariable();
    }

    private int variableOf(int low, int high) {
        for (int tries = 0; tries < 8; tries++) {
            int variable = anyVariable();
            if (variable >= 0 && variable < variables && model.kinds.get(variable) >= low
                    && model.kinds.get(variable) <= high) {
                return variable;
            }
        }
        return anyVariable();
    }

    private int anyStatement() {
        return random.nextInt(30) == 0 ? random.nextInt(44) - 2 : random.nextInt(Math.max(statements, 1));
    }

    private int anyPlace(int variable) {
        if (random.nextInt(40) == 0 || variable < 0 || variable >= variables) {
            return random.nextInt(8) - 3;
        }
        if (random.nextInt(3) == 0) {
            return -1;
        }
        return model.kinds.get(variable) == 1 ? random.nextInt(3) : model.kinds.get(variable) == 0 ? -1 : 3;
    }

    private int anyTarget() {
        if (random.nextInt(30) == 0) {
            return random.nextInt(46) - 2;
        }
        return random.nextInt(Math.min(statements + 4, 41));
    }

    private void tellVariable(int kind) {
        boolean isParameter = random.nextInt(3) != 0;
        tellSame("variable(" + kind + ", " + isParameter + ")",
                () -> program.variable(kind, isParameter), () -> model.variable(kind, isParameter));
        variables = model.kinds.size();
    }

    private void tell() {
        int kind = random.nextInt(100);
        if (kind < 2) {
            tellVariable(random.nextInt(6) - 1);
        } else if (kind < 14) {
            tellWrite();
        } else if (kind < 26) {
            tellMove();
        } else if (kind < 46) {
            tellLoan(kind < 37);
        } else if (kind < 58) {
            int v = anyVariable();
            int p = anyPlace(v);
            tellSame("read(" + v + ", " + p + ")", () -> program.read(v, p), () -> model.read(v, p));
        } else if (kind < 63) {
            int v = anyVariable();
            tellSame("drop(" + v + ")", () -> program.drop(v), () -> model.drop(v));
        } else if (kind < 74) {
            tellCall();
        } else {
            tellWay(kind);
        }
        statements = model.statements.size();
    }

    private void tellWrite() {
        int v = random.nextInt(3) == 0 ? variableOf(3, 3) : variableOf(0, 1);
        int p = model.kinds.size() > v && v >= 0 && model.kinds.get(v) == 3 && random.nextInt(9) != 0
                ? 3 : anyPlace(v);
        tellSame("write(" + v + ", " + p + ")", () -> program.write(v, p), () -> model.write(v, p));
    }

    private void tellMove() {
        int from = anyVariable();
        boolean isKnown = from >= 0 && from < variables;
        int to = isKnown ? variableOf(model.kinds.get(from), model.kinds.get(from)) : anyVariable();
        int p = isKnown && model.kinds.get(from) == 1 ? anyPlace(from) : random.nextInt(20) == 0 ? 3 : -1;
        tellSame("move(" + to + ", " + from + ", " + p + ")",
                () -> program.move(to, from, p), () -> model.move(to, from, p));
    }

    private void tellLoan(boolean isLend) {
        int to = variableOf(2, 3);
        if (isLend) {
            int of = variableOf(0, 1);
            int p = anyPlace(of);
            tellSame("lend(" + to + ", " + of + ", " + p + ")",
                    () -> program.lend(to, of, p), () -> model.lend(to, of, p));
        } else {
            int from = variableOf(2, 3);
            tellSame("relend(" + to + ", " + from + ")",
                    () -> program.relend(to, from), () -> model.relend(to, from));
        }
    }

    private void tellCall() {
        int to = random.nextBoolean() ? variableOf(2, 3) : anyVariable();
        int one = random.nextBoolean() ? variableOf(2, 3) : variableOrNone();
        int other = random.nextInt(3) == 0 ? variableOf(2, 3) : variableOrNone();
        int ties = random.nextInt(40) == 0 ? random.nextInt(9) - 3 : random.nextInt(4);
        tellSame("call(" + to + ", " + one + ", " + other + ", " + ties + ")",
                () -> program.call(to, one, other, ties), () -> model.call(to, one, other, ties));
    }

    private void tellWay(int kind) {
        int target = anyTarget();
        if (kind < 84) {
            tellSame("branch(false, " + target + ")",
                    () -> program.branch(false, target), () -> model.branch(false, target));
        } else if (kind < 87) {
            tellSame("branch(true, " + target + ")",
                    () -> program.branch(true, target), () -> model.branch(true, target));
        } else if (kind < 91) {
            int v = random.nextInt(3) == 0 ? variableOrNone() : variableOf(2, 3);
            tellSame("finish(" + v + ")", () -> program.finish(v), () -> model.finish(v));
        } else if (kind < 95) {
            tellSame("undo()", () -> program.undo(), model::undo);
        } else {
            int s = anyBranch();
            tellSame("setTarget(" + s + ", " + target + ")",
                    () -> program.setTarget(s, target), () -> model.setTarget(s, target));
        }
    }

    private int anyBranch() {
        for (int tries = 0; tries < 8; tries++) {
            int s = anyStatement();
            if (s >= 0 && s < statements && (model.codeOf(s) == 7 || model.codeOf(s) == 8)) {
                return s;
            }
        }
        return anyStatement();
    }

    private void ask() {
        int s = anyStatement();
        int v = anyVariable();
        int p = anyPlace(v);
        int loan = anyStatement();
        switch (random.nextInt(12)) {
            case 0 -> same("isReached(" + s + ")",
                    () -> one(program.isReached(s)), () -> one(model.isReached(s)));
            case 1 -> same("canBe(" + s + ", " + v + ", " + p + ")",
                    () -> program.canBe(s, v, p), () -> model.canBe(s, v, p));
            case 2 -> same("holds(" + s + ", " + v + ")",
                    () -> program.holds(s, v), () -> model.holds(s, v));
            case 3 -> same("canHold(" + s + ", " + v + ", " + loan + ")",
                    () -> one(program.canHold(s, v, loan)), () -> one(model.canHold(s, v, loan)));
            case 4 -> same("awaited(" + s + ")", () -> program.awaited(s), () -> model.awaited(s));
            case 5 -> same("isLive(" + loan + ", " + s + ")",
                    () -> one(program.isLive(loan, s)), () -> one(model.isLive(loan, s)));
            case 6 -> same("region(" + loan + ")", () -> program.region(loan), () -> model.region(loan));
            case 7 -> same("faultsAt(" + s + ")", () -> program.faultsAt(s), () -> model.faultsAt(s));
            case 8 -> same("codeOf(" + s + ")", () -> program.codeOf(s), () -> model.codeOf(s));
            case 9 -> same("without(" + s + ")", () -> program.without(s), () -> model.without(s));
            case 10 -> same("copied(" + s + ")", () -> program.copied(s), () -> model.copied(s));
            default -> askFaults();
        }
    }

    private void askFaults() {
        int fault = random.nextInt(12) - 1;
        int what = random.nextInt(9) - 1;
        same("ofFault(" + fault + ", " + what + ")",
                () -> program.ofFault(fault, what), () -> model.ofFault(fault, what));
        same("faultsOf(" + what + ")", () -> program.faultsOf(what), () -> model.faultsOf(what));
        same("faults()", () -> program.faults(), model::faults);
        same("loans()", () -> program.loans(), model::loans);
    }

    private void compareAll() {
        same("variables()", () -> program.variables(), () -> model.kinds.size());
        same("statements()", () -> program.statements(), () -> model.statements.size());
        same("culprit()", () -> program.culprit(), model::culprit);
        same("density()", () -> program.density(), model::density);
        compareDigest();
        for (int each = 0; each < statements; each++) {
            int s = each;
            same("without(" + s + ")", () -> program.without(s), () -> model.without(s));
            same("copied(" + s + ")", () -> program.copied(s), () -> model.copied(s));
            for (int variable = 0; variable < variables; variable++) {
                int v = variable;
                for (int place = -2; place <= 4; place++) {
                    int p = place;
                    same("canBe(" + s + ", " + v + ", " + p + ")",
                            () -> program.canBe(s, v, p), () -> model.canBe(s, v, p));
                }
                for (int number = -1; number <= statements; number++) {
                    int loan = number;
                    same("canHold(" + s + ", " + v + ", " + loan + ")",
                            () -> one(program.canHold(s, v, loan)), () -> one(model.canHold(s, v, loan)));
                }
            }
        }
        compareDigest();
    }

    private static int one(boolean isSo) {
        return isSo ? 1 : 0;
    }
}
