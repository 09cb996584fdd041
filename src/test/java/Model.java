import java.util.ArrayDeque;
import java.util.ArrayList;
import java.util.Deque;
import java.util.HashSet;
import java.util.List;
import java.util.Set;
import java.util.TreeSet;

/**
 * The document again, told in another way: each fact (a CELL is something ahead of a STATEMENT, a
 * variable holds a LOAN there) is a node, and what can be is what is found by walking from node to
 * node. It is slow and shares nothing with Ironwood.
 */
final class Model {
    static final String INDEX = "IndexOutOfBoundsException";
    static final String ARGUMENT = "IllegalArgumentException";
    static final String STATE = "IllegalStateException";

    /** What a call answers: a number, or the exception that it throws. */
    static final class Refused extends RuntimeException {
        private static final long serialVersionUID = 1L;

        Refused(String name) {
            super(name);
        }
    }

    record Statement(int code, int to, int one, int place, int other, int ties) {
    }

    record Access(char act, int variable, int place, boolean isSetting, boolean isLending) {
    }

    record Fault(int statement, int code, int variable, int place, int reason, int holder, int next) {
        int detail(int what) {
            return new int[] {statement, code, variable, place, reason, holder, next}[what];
        }
    }

    record CellFact(int statement, int cell, int state, int by) {
    }

    record LoanFact(int statement, int variable, int loan) {
    }

    final List<Integer> kinds = new ArrayList<>();
    final List<Boolean> parameters = new ArrayList<>();
    final List<Statement> statements = new ArrayList<>();
    private Found found;

    // ---- telling

    int variable(int kind, boolean isParameter) {
        refuseIf(kind < 0 || kind > 3, ARGUMENT);
        refuseIf(kinds.size() == 12, STATE);
        kinds.add(kind);
        parameters.add(isParameter);
        found = null;
        return kinds.size() - 1;
    }

    int write(int variable, int place) {
        refuseIf(!isVariable(variable), INDEX);
        int kind = kinds.get(variable);
        boolean isFit = switch (kind) {
            case 0 -> place == -1;
            case 1 -> place >= -1 && place <= 2;
            case 3 -> place == 3;
            default -> false;
        };
        refuseIf(!isFit, ARGUMENT);
        return add(new Statement(0, -1, variable, place, -1, 0));
    }

    int move(int to, int variable, int place) {
        refuseIf(!isVariable(to) || !isVariable(variable), INDEX);
        boolean isFit = place == -1
                ? to != variable && kinds.get(to).intValue() == kinds.get(variable).intValue()
                : place >= 0 && place <= 2 && kinds.get(to) == 1 && kinds.get(variable) == 1;
        refuseIf(!isFit, ARGUMENT);
        return add(new Statement(1, to, variable, place, -1, 0));
    }

    int lend(int to, int variable, int place) {
        refuseIf(!isVariable(to) || !isVariable(variable), INDEX);
        refuseIf(kinds.get(to) < 2 || kinds.get(variable) > 1, ARGUMENT);
        refuseIf(place < -1 || place > (kinds.get(variable) == 1 ? 2 : -1), ARGUMENT);
        return add(new Statement(2, to, variable, place, -1, 0));
    }

    int relend(int to, int from) {
        refuseIf(!isVariable(to) || !isVariable(from), INDEX);
        refuseIf(kinds.get(to) < 2 || kinds.get(from) < 2 || to == from, ARGUMENT);
        refuseIf(kinds.get(to) > kinds.get(from), ARGUMENT);
        return add(new Statement(3, to, from, 3, -1, 0));
    }

    int read(int variable, int place) {
        refuseIf(!isVariable(variable), INDEX);
        boolean isFit = switch (place) {
            case -1 -> true;
            case 0, 1, 2 -> kinds.get(variable) == 1;
            case 3 -> kinds.get(variable) >= 2;
            default -> false;
        };
        refuseIf(!isFit, ARGUMENT);
        return add(new Statement(4, -1, variable, place, -1, 0));
    }

    int drop(int variable) {
        refuseIf(!isVariable(variable), INDEX);
        return add(new Statement(5, -1, variable, -1, -1, 0));
    }

    int call(int to, int one, int other, int ties) {
        refuseIf(!isVariable(to), INDEX);
        refuseIf(one != -1 && !isVariable(one), INDEX);
        refuseIf(other != -1 && !isVariable(other), INDEX);
        refuseIf(ties < 0 || ties > 3 || one >= 0 && one == other, ARGUMENT);
        return add(new Statement(6, to, one, -1, other, ties));
    }

    int branch(boolean isGo, int target) {
        refuseIf(target < 0 || target > 40, ARGUMENT);
        return add(new Statement(isGo ? 8 : 7, -1, -1, -1, target, 0));
    }

    int finish(int variable) {
        refuseIf(variable != -1 && !isVariable(variable), INDEX);
        return add(new Statement(9, -1, variable, -1, -1, 0));
    }

    int setTarget(int statement, int target) {
        refuseIf(!isStatement(statement), INDEX);
        Statement old = statements.get(statement);
        refuseIf(old.code() != 7 && old.code() != 8, ARGUMENT);
        refuseIf(target < 0 || target > 40, ARGUMENT);
        statements.set(statement, new Statement(old.code(), -1, -1, -1, target, 0));
        found = null;
        return old.other();
    }

    int undo() {
        refuseIf(statements.isEmpty(), STATE);
        statements.remove(statements.size() - 1);
        found = null;
        return statements.size();
    }

    int codeOf(int statement) {
        refuseIf(!isStatement(statement), INDEX);
        return statements.get(statement).code();
    }

    // ---- asking

    boolean isReached(int statement) {
        refuseIf(!isStatement(statement), INDEX);
        return found().reached.contains(statement);
    }

    int canBe(int statement, int variable, int place) {
        refuseIf(!isStatement(statement) || !isVariable(variable), INDEX);
        refuseIf(place < -1 || place > (kinds.get(variable) == 1 ? 2 : -1), ARGUMENT);
        int sum = 0;
        for (CellFact fact : found().cellFacts) {
            if (fact.statement() == statement && cells(variable, place).contains(fact.cell())) {
                sum |= fact.state();
            }
        }
        return sum;
    }

    int holds(int statement, int variable) {
        refuseIf(!isStatement(statement) || !isVariable(variable), INDEX);
        int count = 0;
        for (int loan = 0; loan < statements.size(); loan++) {
            count += found().canHold(statement, variable, loan) ? 1 : 0;
        }
        return count;
    }

    boolean canHold(int statement, int variable, int loan) {
        refuseIf(!isStatement(statement) || !isVariable(variable), INDEX);
        return found().canHold(statement, variable, loan);
    }

    int awaited(int statement) {
        refuseIf(!isStatement(statement), INDEX);
        int set = 0;
        for (int variable = 0; variable < kinds.size(); variable++) {
            if (found().isAwaited(statement, variable)) {
                set += 1 << variable;
            }
        }
        return set;
    }

    int loans() {
        int count = 0;
        for (int statement : found().reached) {
            count += isLending(statement) ? 1 : 0;
        }
        return count;
    }

    boolean isLive(int loan, int statement) {
        refuseIf(!isStatement(statement), INDEX);
        return found().isLive(loan, statement);
    }

    int region(int loan) {
        if (!isStatement(loan) || !isLending(loan) || !found().reached.contains(loan)) {
            return -1;
        }
        int count = 0;
        for (int statement = 0; statement < statements.size(); statement++) {
            count += found().isLive(loan, statement) ? 1 : 0;
        }
        return count;
    }

    int faults() {
        return found().faults.size();
    }

    int ofFault(int fault, int what) {
        refuseIf(fault < 0 || fault >= faults(), INDEX);
        refuseIf(what < 0 || what > 6, ARGUMENT);
        return found().faults.get(fault).detail(what);
    }

    int faultsAt(int statement) {
        refuseIf(!isStatement(statement), INDEX);
        return (int) found().faults.stream().filter(fault -> fault.statement() == statement).count();
    }

    int faultsOf(int code) {
        refuseIf(code < 1 || code > 6, ARGUMENT);
        return (int) found().faults.stream().filter(fault -> fault.code() == code).count();
    }

    int without(int statement) {
        refuseIf(!isStatement(statement), INDEX);
        return new Found(statement, -1).faults.size();
    }

    int copied(int statement) {
        refuseIf(!isStatement(statement), INDEX);
        return new Found(-1, statement).faults.size();
    }

    int culprit() {
        int best = -1;
        for (int statement = 0; statement < statements.size(); statement++) {
            if (without(statement) < (best < 0 ? faults() : without(best))) {
                best = statement;
            }
        }
        return best;
    }

    double density() {
        return found().reached.isEmpty() ? 0 : (double) faults() / found().reached.size();
    }

    long digest() {
        List<Integer> all = new ArrayList<>(List.of(kinds.size(), statements.size(), loans(), faults()));
        for (int s = 0; s < statements.size(); s++) {
            all.addAll(List.of(codeOf(s), isReached(s) ? 1 : 0, awaited(s), region(s)));
            for (int v = 0; v < kinds.size(); v++) {
                all.addAll(List.of(canBe(s, v, -1), holds(s, v)));
            }
        }
        for (int fault = 0; fault < faults(); fault++) {
            for (int what = 0; what <= 6; what++) {
                all.add(ofFault(fault, what));
            }
        }
        for (int code = 1; code <= 6; code++) {
            all.add(faultsOf(code));
        }
        long sum = 58057;
        for (int x : all) {
            sum = sum * 31 + x;
        }
        return sum;
    }

    // ---- the terms

    private static void refuseIf(boolean isSo, String name) {
        if (isSo) {
            throw new Refused(name);
        }
    }

    private boolean isVariable(int variable) {
        return variable >= 0 && variable < kinds.size();
    }

    private boolean isStatement(int statement) {
        return statement >= 0 && statement < statements.size();
    }

    private int add(Statement statement) {
        refuseIf(statements.size() == 40, STATE);
        statements.add(statement);
        found = null;
        return statements.size() - 1;
    }

    private Found found() {
        if (found == null) {
            found = new Found(-1, -1);
        }
        return found;
    }

    private boolean isLending(int statement) {
        return statements.get(statement).code() == 2 || statements.get(statement).code() == 3;
    }

    /** CELL f of variable v is 10 v + f. */
    private Set<Integer> cells(int variable, int place) {
        Set<Integer> cells = new TreeSet<>();
        for (int field = 0; field < (kinds.get(variable) == 1 ? 3 : 1); field++) {
            if (place == -1 || place == field) {
                cells.add(10 * variable + field);
            }
        }
        return cells;
    }

    /** Everything that follows, if one STATEMENT is skipped, or one copies; -1 for none. */
    private final class Found {
        final int skipped;
        final int copying;
        final Set<Integer> reached = new TreeSet<>();
        final Set<CellFact> cellFacts = new HashSet<>();
        final Set<LoanFact> loanFacts = new HashSet<>();
        final List<Fault> faults = new ArrayList<>();

        Found(int skipped, int copying) {
            this.skipped = skipped;
            this.copying = copying;
            if (!statements.isEmpty()) {
                reached.addAll(from(0));
            }
            walkCells();
            walkLoans();
            for (int statement : reached) {
                for (Access access : accesses(statement)) {
                    note(statement, access);
                }
            }
        }

        List<Integer> goes(int s) {
            List<Integer> all = new ArrayList<>();
            int code = s == skipped ? 4 : statements.get(s).code();
            if (code != 8 && code != 9) {
                all.add(s + 1);
            }
            if (code == 7 || code == 8) {
                all.add(statements.get(s).other());
            }
            all.removeIf(to -> to >= statements.size());
            return all;
        }

        Set<Integer> from(int start) {
            Set<Integer> seen = new TreeSet<>(List.of(start));
            Deque<Integer> open = new ArrayDeque<>(seen);
            while (!open.isEmpty()) {
                for (int to : goes(open.pop())) {
                    if (seen.add(to)) {
                        open.push(to);
                    }
                }
            }
            return seen;
        }

        int set(int s) {
            Statement told = statements.get(s);
            if (s == skipped) {
                return -1;
            }
            return switch (told.code()) {
                case 0 -> told.place() == -1 ? told.one() : -1;
                case 1, 2, 3, 6 -> told.to();
                default -> -1;
            };
        }

        Access taking(int s, int variable, int place) {
            boolean isMove = place >= 0 || kinds.get(variable) == 1 || kinds.get(variable) == 3;
            return new Access(isMove && s != copying ? 'M' : 'R', variable, place, false, false);
        }

        List<Access> accesses(int s) {
            List<Access> all = new ArrayList<>();
            if (s == skipped) {
                return all;
            }
            Statement told = statements.get(s);
            switch (told.code()) {
                case 0:
                    if (told.place() != -1) {
                        all.add(new Access('W', told.one(), told.place(), false, false));
                    }
                    break;
                case 1:
                    all.add(taking(s, told.one(), told.place()));
                    break;
                case 2, 3:
                    char act = kinds.get(told.to()) == 2 ? 'R' : 'W';
                    all.add(new Access(act, told.one(), told.place(), false, true));
                    break;
                case 4:
                    all.add(new Access('R', told.one(), told.place(), false, false));
                    break;
                case 5:
                    all.add(new Access('D', told.one(), -1, false, false));
                    break;
                case 6:
                    if (told.one() >= 0) {
                        all.add(taking(s, told.one(), -1));
                    }
                    if (told.other() >= 0) {
                        all.add(taking(s, told.other(), -1));
                    }
                    break;
                case 9:
                    if (told.one() >= 0) {
                        all.add(taking(s, told.one(), -1));
                    }
                    break;
                default:
                    break;
            }
            if (set(s) >= 0) {
                all.add(new Access('W', set(s), -1, true, false));
            }
            return all;
        }

        boolean uses(int s, int variable) {
            for (Access access : accesses(s)) {
                boolean isExcepted = access.act() == 'D'
                        || access.act() == 'W' && access.place() != 3 && !access.isLending();
                if (access.variable() == variable && !isExcepted) {
                    return true;
                }
            }
            return false;
        }

        void walkCells() {
            Deque<CellFact> open = new ArrayDeque<>();
            for (int v = 0; v < kinds.size() && !statements.isEmpty(); v++) {
                for (int cell : cells(v, -1)) {
                    open.push(new CellFact(0, cell, parameters.get(v) ? 2 : 1, -1));
                }
            }
            while (!open.isEmpty()) {
                CellFact fact = open.pop();
                if (!cellFacts.add(fact)) {
                    continue;
                }
                int state = fact.state();
                int by = fact.by();
                for (Access access : accesses(fact.statement())) {
                    if (access.place() == 3 || access.isLending() || access.act() == 'R'
                            || !cells(access.variable(), access.place()).contains(fact.cell())) {
                        continue;
                    }
                    state = access.act() == 'M' ? 4 : access.act() == 'W' ? 2 : 1;
                    by = access.act() == 'M' ? fact.statement() : -1;
                }
                for (int to : goes(fact.statement())) {
                    open.push(new CellFact(to, fact.cell(), state, by));
                }
            }
        }

        void walkLoans() {
            Deque<LoanFact> open = new ArrayDeque<>();
            for (int s : reached) {
                if (s != skipped && isLending(s)) {
                    goes(s).forEach(to -> open.push(new LoanFact(to, set(s), s)));
                }
            }
            while (!open.isEmpty()) {
                LoanFact fact = open.pop();
                if (!loanFacts.add(fact)) {
                    continue;
                }
                int s = fact.statement();
                for (int to : goes(s)) {
                    if (set(s) != fact.variable()) {
                        open.push(new LoanFact(to, fact.variable(), fact.loan()));
                    }
                    if (set(s) >= 0 && kinds.get(set(s)) >= 2 && isSource(s, fact.variable())) {
                        open.push(new LoanFact(to, set(s), fact.loan()));
                    }
                }
            }
        }

        boolean isSource(int s, int variable) {
            Statement told = statements.get(s);
            return switch (told.code()) {
                case 1 -> told.place() == -1 && told.one() == variable;
                case 3 -> told.one() == variable;
                case 6 -> told.one() == variable && (told.ties() == 1 || told.ties() == 3)
                        || told.other() == variable && (told.ties() == 2 || told.ties() == 3);
                default -> false;
            };
        }

        boolean canHold(int s, int variable, int loan) {
            return loanFacts.contains(new LoanFact(s, variable, loan));
        }

        /** The STATEMENTS that USE it, and to which one can come, none ahead of them SETTING it. */
        Set<Integer> usesAhead(int start, int variable) {
            Set<Integer> seen = new TreeSet<>(List.of(start));
            Deque<Integer> open = new ArrayDeque<>(seen);
            Set<Integer> users = new TreeSet<>();
            while (!open.isEmpty()) {
                int s = open.pop();
                if (uses(s, variable)) {
                    users.add(s);
                }
                if (set(s) == variable) {
                    continue;
                }
                for (int to : goes(s)) {
                    if (seen.add(to)) {
                        open.push(to);
                    }
                }
            }
            return users;
        }

        boolean isAwaited(int s, int variable) {
            return reached.contains(s) && !usesAhead(s, variable).isEmpty();
        }

        boolean isLive(int loan, int s) {
            for (int v = 0; v < kinds.size(); v++) {
                if (canHold(s, v, loan) && isAwaited(s, v)) {
                    return true;
                }
            }
            return false;
        }

        boolean meet(Access access, int loan) {
            Statement lending = statements.get(loan);
            if (lending.one() != access.variable()) {
                return false;
            }
            int p = access.place();
            int q = lending.place();
            boolean isField = p >= 0 && p <= 2;
            boolean isOtherField = q >= 0 && q <= 2;
            return p == q || p == -1 && isOtherField || q == -1 && isField
                    || access.act() == 'M' && p == -1 && q == 3;
        }

        void note(int s, Access access) {
            int variable = access.variable();
            int place = access.place();
            boolean isAsking = !access.isSetting() && (access.act() == 'R' || access.act() == 'M'
                    || access.act() == 'W' && (place == 3 || access.isLending()));
            Set<Integer> cells = cells(variable, place == 3 ? -1 : place);
            boolean isUnmade = false;
            int mover = 99;
            for (CellFact fact : cellFacts) {
                if (fact.statement() == s && cells.contains(fact.cell())) {
                    isUnmade |= fact.state() == 1;
                    mover = fact.state() == 4 ? Math.min(mover, fact.by()) : mover;
                }
            }
            if (isAsking && isUnmade) {
                faults.add(new Fault(s, 1, variable, place, -1, -1, -1));
            }
            if (isAsking && mover < 99) {
                faults.add(new Fault(s, 2, variable, place, mover, -1, -1));
            }
            noteLoan(s, access);
            if (statements.get(s).code() == 9) {
                for (int loan = 0; loan < statements.size(); loan++) {
                    if (canHold(s, variable, loan) && statements.get(loan).place() != 3) {
                        faults.add(new Fault(s, 6, variable, place, loan, -1, -1));
                        break;
                    }
                }
            }
        }

        void noteLoan(int s, Access access) {
            int code = access.act() == 'R' ? 5 : access.act() == 'W' ? 4 : 3;
            for (int loan = 0; loan < statements.size(); loan++) {
                if (!isLive(loan, s) || !meet(access, loan)) {
                    continue;
                }
                if (code == 5 && kinds.get(statements.get(loan).to()) != 3) {
                    continue;
                }
                int holder = 0;
                while (!canHold(s, holder, loan) || !isAwaited(s, holder)) {
                    holder++;
                }
                int next = usesAhead(s, holder).iterator().next();
                faults.add(new Fault(s, code, access.variable(), access.place(), loan, holder, next));
                return;
            }
        }
    }
}
