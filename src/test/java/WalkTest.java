import java.util.ArrayList;
import java.util.List;
import java.util.Random;

/** Short rows of STATEMENTS: all of two, and chosen ones of up to nine; each answer is held against Walk. */
public final class WalkTest {
    private static final int RUNS = 4000;
    private static final int MOST_STATEMENTS = 9;

    private WalkTest() {
    }

    public static void main(String[] args) {
        int runs = args.length > 0 ? Integer.parseInt(args[0]) : RUNS;
        Expect.holds("every row of no, one or two STATEMENTS of four variables", WalkTest::all);
        Expect.holds("chosen rows of more STATEMENTS and variables", () -> chosen(runs));
        Expect.end("WalkTest");
    }

    private static void all() {
        int[] kinds = {0, 1, 2, 3};
        List<int[]> each = statementsOf(kinds, 2);
        for (int made = 0; made < 2; made++) {
            boolean[] parameters = {made == 1, made == 1, made == 1, made == 1};
            compare(new Walk.Row(kinds, parameters, new int[][] {}));
            for (int[] first : each) {
                compare(new Walk.Row(kinds, parameters, new int[][] {first}));
                for (int[] second : each) {
                    compare(new Walk.Row(kinds, parameters, new int[][] {first, second}));
                }
            }
        }
    }

    private static void chosen(int runs) {
        Random random = new Random(20261120);
        for (int run = 0; run < runs && !Expect.isAnyWrong(); run++) {
            int[] kinds = new int[1 + random.nextInt(5)];
            boolean[] parameters = new boolean[kinds.length];
            for (int v = 0; v < kinds.length; v++) {
                kinds[v] = random.nextInt(4);
                parameters[v] = random.nextInt(3) != 0;
            }
            int[][] statements = new int[3 + random.nextInt(MOST_STATEMENTS - 2)][];
            List<List<int[]>> byCode = byCode(statementsOf(kinds, statements.length));
            for (int s = 0; s < statements.length; s++) {
                int code = random.nextInt(24);
                List<int[]> some = byCode.get(code < 20 ? code % 8 : 8 + code % 2);
                List<int[]> from = some.isEmpty() ? byCode.get(4) : some;
                statements[s] = from.get(random.nextInt(from.size()));
            }
            compare(new Walk.Row(kinds, parameters, statements));
        }
    }

    private static List<List<int[]>> byCode(List<int[]> statements) {
        List<List<int[]>> all = new ArrayList<>();
        for (int code = 0; code <= 9; code++) {
            all.add(new ArrayList<>());
        }
        statements.forEach(it -> all.get(it[0]).add(it));
        return all;
    }

    /** Each STATEMENT that the document allows for these variables, with targets up to the end. */
    private static List<int[]> statementsOf(int[] kinds, int end) {
        List<int[]> all = new ArrayList<>();
        for (int v = 0; v < kinds.length; v++) {
            for (int p = -1; p <= 3; p++) {
                boolean hasCells = p == -1 || p < 3 && kinds[v] == 1;
                addIf(all, hasCells && kinds[v] < 2 || p == 3 && kinds[v] == 3, 0, v, p);
                addIf(all, hasCells || p == 3 && kinds[v] >= 2, 4, v, p);
                for (int to = 0; to < kinds.length; to++) {
                    boolean isField = hasCells && p >= 0 && kinds[to] == 1;
                    addIf(all, isField || p == -1 && to != v && kinds[to] == kinds[v], 1, to, v, p);
                    addIf(all, hasCells && kinds[v] < 2 && kinds[to] >= 2, 2, to, v, p);
                }
            }
            for (int to = 0; to < kinds.length; to++) {
                addIf(all, to != v && kinds[to] >= 2 && kinds[v] >= kinds[to], 3, to, v);
            }
            all.add(new int[] {5, v});
            addCalls(all, kinds.length, v);
        }
        for (int target = 0; target <= end; target++) {
            all.add(new int[] {7, target});
            all.add(new int[] {8, target});
        }
        for (int v = -1; v < kinds.length; v++) {
            all.add(new int[] {9, v});
        }
        return all;
    }

    private static void addCalls(List<int[]> all, int variables, int to) {
        for (int one = -1; one < variables; one++) {
            for (int other = -1; other < variables; other++) {
                for (int ties = 0; ties <= 3; ties++) {
                    addIf(all, one == -1 || one != other, 6, to, one, other, ties);
                }
            }
        }
    }

    private static void addIf(List<int[]> all, boolean isAllowed, int... statement) {
        if (isAllowed) {
            all.add(statement);
        }
    }

    private static Ironwood made(Walk.Row row) {
        Ironwood x = new Ironwood();
        for (int v = 0; v < row.kinds().length; v++) {
            x.variable(row.kinds()[v], row.parameters()[v]);
        }
        for (int[] it : row.statements()) {
            switch (it[0]) {
                case 0 -> x.write(it[1], it[2]);
                case 1 -> x.move(it[1], it[2], it[3]);
                case 2 -> x.lend(it[1], it[2], it[3]);
                case 3 -> x.relend(it[1], it[2]);
                case 4 -> x.read(it[1], it[2]);
                case 5 -> x.drop(it[1]);
                case 6 -> x.call(it[1], it[2], it[3], it[4]);
                case 7, 8 -> x.branch(it[0] == 8, it[1]);
                default -> x.finish(it[1]);
            }
        }
        return x;
    }

    private static void compare(Walk.Row row) {
        if (Expect.isAnyWrong()) {
            return;
        }
        Walk walk = new Walk(row, -1, -1);
        Ironwood x = made(row);
        compareFaults(x, walk);
        int culprit = -1;
        int fewest = walk.faults.size();
        for (int s = 0; s < row.statements().length; s++) {
            int left = new Walk(row, s, -1).faults.size();
            Expect.same("without(" + s + ")", x.without(s), left);
            Expect.same("copied(" + s + ")", x.copied(s), new Walk(row, -1, s).faults.size());
            culprit = left < fewest ? s : culprit;
            fewest = Math.min(left, fewest);
            compareAhead(made(row), walk, row, s);
        }
        Expect.same("culprit()", x.culprit(), culprit);
        int reached = walk.reached.size();
        Expect.same("density()", x.density(), reached == 0 ? 0 : (double) walk.faults.size() / reached);
        Expect.same("digest()", x.digest(), digest(walk, row));
        if (Expect.isAnyWrong()) {
            System.out.println(Walk.told(row));
        }
    }

    private static void compareFaults(Ironwood x, Walk walk) {
        Expect.same("faults()", x.faults(), walk.faults.size());
        for (int fault = 0; fault < Math.min(x.faults(), walk.faults.size()); fault++) {
            for (int what = 0; what <= 6; what++) {
                Expect.same("ofFault(" + fault + ", " + what + ")",
                        x.ofFault(fault, what), walk.faults.get(fault)[what]);
            }
        }
    }

    private static void compareAhead(Ironwood x, Walk walk, Walk.Row row, int s) {
        Expect.yes("isReached(" + s + ")", x.isReached(s) == walk.reached.contains(s));
        Expect.same("awaited(" + s + ")", x.awaited(s), awaited(walk, row, s));
        Expect.same("region(" + s + ")", x.region(s), region(walk, row, s));
        for (int v = 0; v < row.kinds().length; v++) {
            for (int p = -1; p <= (row.kinds()[v] == 1 ? 2 : -1); p++) {
                Expect.same("canBe(" + s + ", " + v + ", " + p + ")", x.canBe(s, v, p), walk.canBe(s, v, p));
            }
            Expect.same("holds(" + s + ", " + v + ")", x.holds(s, v), walk.held(s, v).size());
            for (int loan = 0; loan < row.statements().length; loan++) {
                Expect.yes("canHold(" + s + ", " + v + ", " + loan + ")",
                        x.canHold(s, v, loan) == walk.held(s, v).contains(loan));
            }
        }
        for (int loan = 0; loan < row.statements().length; loan++) {
            Expect.yes("isLive(" + loan + ", " + s + ")", x.isLive(loan, s) == walk.isLive(loan, s));
        }
    }

    private static int awaited(Walk walk, Walk.Row row, int s) {
        int set = 0;
        for (int v = 0; v < row.kinds().length; v++) {
            set += walk.isAwaited(s, v) ? 1 << v : 0;
        }
        return set;
    }

    private static int region(Walk walk, Walk.Row row, int loan) {
        int count = 0;
        for (int s = 0; s < row.statements().length; s++) {
            count += walk.isLive(loan, s) ? 1 : 0;
        }
        return walk.isLoanMade(loan) ? count : -1;
    }

    private static long digest(Walk walk, Walk.Row row) {
        int count = row.statements().length;
        List<Integer> numbers = new ArrayList<>(List.of(row.kinds().length, count));
        int loans = 0;
        for (int s = 0; s < count; s++) {
            loans += walk.isLoanMade(s) ? 1 : 0;
        }
        numbers.addAll(List.of(loans, walk.faults.size()));
        for (int s = 0; s < count; s++) {
            numbers.addAll(List.of(row.statements()[s][0], walk.reached.contains(s) ? 1 : 0,
                    awaited(walk, row, s), region(walk, row, s)));
            for (int v = 0; v < row.kinds().length; v++) {
                numbers.addAll(List.of(walk.canBe(s, v, -1), walk.held(s, v).size()));
            }
        }
        int[] ofCode = new int[7];
        for (int[] fault : walk.faults) {
            ofCode[fault[1]]++;
            for (int detail : fault) {
                numbers.add(detail);
            }
        }
        for (int code = 1; code <= 6; code++) {
            numbers.add(ofCode[code]);
        }
        long sum = 58057;
        for (int number : numbers) {
            sum = sum * 31 + number;
        }
        return sum;
    }
}
