import java.util.ArrayDeque;
import java.util.ArrayList;
import java.util.Arrays;
import java.util.Deque;
import java.util.HashSet;
import java.util.List;
import java.util.Set;
import java.util.TreeSet;

/**
 * The document once more: each way is gone by itself, with what is so on that way alone. A CELL is
 * one thing then, and a variable holds just these LOANS; what can be is the sum of all ways. It is
 * for short rows of STATEMENTS, and knows no wrong ones.
 */
final class Walk {
    private static final int UNMADE = -1;
    private static final int MADE = -2;

    /** A STATEMENT: its code, then what the call that adds it is given. */
    record Row(int[] kinds, boolean[] parameters, int[][] statements) {
    }

    private record Access(char act, int variable, int place, boolean isSetting, boolean isLending) {
    }

    /** On one way, ahead of a STATEMENT: a CELL is UNMADE, MADE, or GONE by the STATEMENT told. */
    private record Stand(int statement, List<Integer> cells, List<Set<Integer>> held) {
    }

    private final Row row;
    private final int skipped;
    private final int copied;
    private final int count;
    private final int variables;
    private final List<List<Set<Integer>>> can = new ArrayList<>();
    private final List<List<Set<Integer>>> hold = new ArrayList<>();
    final Set<Integer> reached = new TreeSet<>();
    final List<int[]> faults = new ArrayList<>();

    Walk(Row row, int skipped, int copied) {
        this.row = row;
        this.skipped = skipped;
        this.copied = copied;
        count = row.statements.length;
        variables = row.kinds.length;
        for (int s = 0; s < count; s++) {
            can.add(emptySets(3 * variables));
            hold.add(emptySets(variables));
        }
        goAllWays();
        for (int s : reached) {
            noteAt(s);
        }
    }

    private static List<Set<Integer>> emptySets(int count) {
        List<Set<Integer>> sets = new ArrayList<>();
        for (int k = 0; k < count; k++) {
            sets.add(new TreeSet<>());
        }
        return sets;
    }

    // ---- what a STATEMENT is

    private boolean isLoan(int variable) {
        return row.kinds[variable] >= 2;
    }

    private List<Integer> cellsOf(int variable, int place) {
        if (place == 3) {
            return List.of();
        }
        if (place >= 0 || row.kinds[variable] != 1) {
            return List.of(3 * variable + Math.max(place, 0));
        }
        return List.of(3 * variable, 3 * variable + 1, 3 * variable + 2);
    }

    /** What MOVE has of the WHOLE. */
    private Access taken(int variable) {
        boolean isMoved = row.kinds[variable] == 1 || row.kinds[variable] == 3;
        return new Access(isMoved ? 'M' : 'R', variable, -1, false, false);
    }

    private List<Access> accessesOf(int statement) {
        List<Access> all = new ArrayList<>();
        if (statement == skipped) {
            return all;
        }
        int[] it = row.statements[statement];
        switch (it[0]) {
            case 0 -> all.add(new Access('W', it[1], it[2], it[2] == -1, false));
            case 1 -> all.add(it[3] >= 0 ? new Access('M', it[2], it[3], false, false) : taken(it[2]));
            case 2, 3 -> all.add(new Access(row.kinds[it[1]] == 2 ? 'R' : 'W', it[2],
                    it[0] == 2 ? it[3] : 3, false, true));
            case 4 -> all.add(new Access('R', it[1], it[2], false, false));
            case 5 -> all.add(new Access('D', it[1], -1, false, false));
            case 6, 9 -> {
                for (int k = it[0] == 6 ? 2 : 1; k <= (it[0] == 6 ? 3 : 1); k++) {
                    if (it[k] != -1) {
                        all.add(taken(it[k]));
                    }
                }
            }
            default -> { }
        }
        if (statement == copied) {
            all.replaceAll(a -> a.act == 'M' ? new Access('R', a.variable, a.place, false, false) : a);
        }
        if (it[0] == 1 || it[0] == 2 || it[0] == 3 || it[0] == 6) {
            all.add(new Access('W', it[1], -1, true, false));
        }
        return all;
    }

    private int setBy(int statement) {
        for (Access a : accessesOf(statement)) {
            if (a.isSetting) {
                return a.variable;
            }
        }
        return -1;
    }

    private boolean isUsed(int statement, int variable) {
        for (Access a : accessesOf(statement)) {
            boolean isOver = a.act == 'D' || a.act == 'W' && a.place != 3 && !a.isLending;
            if (a.variable == variable && !isOver) {
                return true;
            }
        }
        return false;
    }

    private List<Integer> nextOnes(int statement) {
        int[] it = row.statements[statement];
        List<Integer> all = new ArrayList<>();
        if (statement == skipped || it[0] != 8 && it[0] != 9) {
            all.add(statement + 1);
        }
        if (statement != skipped && (it[0] == 7 || it[0] == 8)) {
            all.add(it[1]);
        }
        all.removeIf(next -> next >= count);
        return all;
    }

    // ---- all ways

    private void goAllWays() {
        if (count == 0) {
            return;
        }
        List<Integer> cells = new ArrayList<>();
        for (int cell = 0; cell < 3 * variables; cell++) {
            cells.add(row.parameters[cell / 3] ? MADE : UNMADE);
        }
        Set<Stand> seen = new HashSet<>();
        Deque<Stand> left = new ArrayDeque<>();
        left.add(new Stand(0, cells, emptySets(variables)));
        while (!left.isEmpty()) {
            Stand stand = left.poll();
            if (seen.add(stand)) {
                note(stand);
                for (int next : nextOnes(stand.statement)) {
                    left.add(behind(stand, next));
                }
            }
        }
    }

    private void note(Stand stand) {
        reached.add(stand.statement);
        for (int cell = 0; cell < 3 * variables; cell++) {
            can.get(stand.statement).get(cell).add(stand.cells.get(cell));
        }
        for (int variable = 0; variable < variables; variable++) {
            hold.get(stand.statement).get(variable).addAll(stand.held.get(variable));
        }
    }

    private Stand behind(Stand stand, int next) {
        List<Integer> cells = new ArrayList<>(stand.cells);
        for (Access a : accessesOf(stand.statement)) {
            for (int cell : cellsOf(a.variable, a.place)) {
                if (a.act == 'M') {
                    cells.set(cell, stand.statement);
                } else if (a.act == 'D') {
                    cells.set(cell, UNMADE);
                } else if (a.act == 'W' && !a.isLending) {
                    cells.set(cell, MADE);
                }
            }
        }
        List<Set<Integer>> held = new ArrayList<>(stand.held);
        int variable = setBy(stand.statement);
        if (variable >= 0) {
            held.set(variable, isLoan(variable) ? heldBehind(stand) : new TreeSet<>());
        }
        return new Stand(next, cells, held);
    }

    private Set<Integer> heldBehind(Stand stand) {
        int[] it = row.statements[stand.statement];
        Set<Integer> loans = new TreeSet<>();
        if (it[0] == 2 || it[0] == 3) {
            loans.add(stand.statement);
        }
        if (it[0] == 3 || it[0] == 1 && it[3] == -1) {
            loans.addAll(stand.held.get(it[2]));
        }
        if (it[0] == 6 && it[2] != -1 && (it[4] == 1 || it[4] == 3)) {
            loans.addAll(stand.held.get(it[2]));
        }
        if (it[0] == 6 && it[3] != -1 && (it[4] == 2 || it[4] == 3)) {
            loans.addAll(stand.held.get(it[3]));
        }
        return loans;
    }

    // ---- what can be

    int canBe(int statement, int variable, int place) {
        int sum = 0;
        for (int cell : cellsOf(variable, place)) {
            for (int state : can.get(statement).get(cell)) {
                sum |= state == UNMADE ? 1 : state == MADE ? 2 : 4;
            }
        }
        return sum;
    }

    Set<Integer> held(int statement, int variable) {
        return hold.get(statement).get(variable);
    }

    /** All uses to which there is a way on which none ahead of it SETS the variable. */
    private TreeSet<Integer> usesFrom(int statement, int variable) {
        TreeSet<Integer> uses = new TreeSet<>();
        Set<Integer> seen = new HashSet<>();
        Deque<Integer> left = new ArrayDeque<>(List.of(statement));
        while (!left.isEmpty()) {
            int at = left.poll();
            if (seen.add(at)) {
                if (isUsed(at, variable)) {
                    uses.add(at);
                }
                if (setBy(at) != variable) {
                    left.addAll(nextOnes(at));
                }
            }
        }
        return uses;
    }

    boolean isAwaited(int statement, int variable) {
        return reached.contains(statement) && !usesFrom(statement, variable).isEmpty();
    }

    boolean isLoanMade(int statement) {
        return (row.statements[statement][0] == 2 || row.statements[statement][0] == 3)
                && reached.contains(statement);
    }

    boolean isLive(int loan, int statement) {
        return holderOf(statement, loan) >= 0;
    }

    private int holderOf(int statement, int loan) {
        for (int variable = 0; variable < variables; variable++) {
            if (held(statement, variable).contains(loan) && isAwaited(statement, variable)) {
                return variable;
            }
        }
        return -1;
    }

    // ---- FAULTS

    private void noteAt(int statement) {
        for (Access a : accessesOf(statement)) {
            boolean isLookedAt = a.act == 'R' || a.act == 'M'
                    || a.act == 'W' && !a.isSetting && (a.place == 3 || a.isLending);
            TreeSet<Integer> states = new TreeSet<>();
            for (int cell : a.place == 3 ? List.of(3 * a.variable) : cellsOf(a.variable, a.place)) {
                states.addAll(can.get(statement).get(cell));
            }
            if (isLookedAt && states.contains(UNMADE)) {
                note(statement, 1, a, -1);
            }
            Integer by = states.ceiling(0);
            if (isLookedAt && by != null) {
                note(statement, 2, a, by);
            }
            int code = a.act == 'W' ? 4 : a.act == 'R' ? 5 : 3;
            for (int loan = 0; loan < count; loan++) {
                boolean isMet = isLive(loan, statement) && meets(a, loan);
                if (isMet && (code != 5 || row.kinds[row.statements[loan][1]] == 3)) {
                    note(statement, code, a, loan);
                    break;
                }
            }
            if (row.statements[statement][0] == 9) {
                noteEnd(statement, a);
            }
        }
    }

    private void noteEnd(int statement, Access a) {
        for (int loan : held(statement, a.variable)) {
            if (row.statements[loan][0] == 2) {
                note(statement, 6, a, loan);
                return;
            }
        }
    }

    private boolean meets(Access a, int loan) {
        int[] it = row.statements[loan];
        int place = it[0] == 3 ? 3 : it[3];
        if (it[2] != a.variable) {
            return false;
        }
        boolean isPart = a.place == -1 && place >= 0 && place <= 2 || place == -1 && a.place >= 0 && a.place <= 2;
        return a.place == place || isPart || a.act == 'M' && a.place == -1 && place == 3;
    }

    private void note(int statement, int code, Access a, int reason) {
        int holder = code >= 3 && code <= 5 ? holderOf(statement, reason) : -1;
        int next = holder < 0 ? -1 : usesFrom(statement, holder).first();
        faults.add(new int[] {statement, code, a.variable, a.place, reason, holder, next});
    }

    static String told(Row row) {
        return Arrays.toString(row.kinds) + Arrays.toString(row.parameters) + Arrays.deepToString(row.statements);
    }
}
