/** A checker of who owns what: statements are told, and what they do wrong is found along all ways. */
public final class Ironwood {
    private static final int MOST_VARIABLES = 12;
    private static final int MOST_STATEMENTS = 40;
    private static final int MOST_ACCESSES = 3;
    private static final int MOST_FAULTS = 7 * MOST_STATEMENTS;
    private static final int MOST_ROUNDS = 1000000;
    private static final int NONE = -1;

    private static final int PLAIN = 0;
    private static final int OWNED = 1;
    private static final int SHARED = 2;
    private static final int ALONE = 3;

    private static final int WHOLE = -1;
    private static final int FIELDS = 3;
    private static final int BEHIND = 3;

    private static final int CODE_WRITE = 0;
    private static final int CODE_MOVE = 1;
    private static final int CODE_LEND = 2;
    private static final int CODE_RELEND = 3;
    private static final int CODE_READ = 4;
    private static final int CODE_DROP = 5;
    private static final int CODE_CALL = 6;
    private static final int CODE_IF = 7;
    private static final int CODE_GO = 8;
    private static final int CODE_END = 9;

    private static final int READS = 0;
    private static final int WRITES = 1;
    private static final int MOVES = 2;
    private static final int DROPS = 3;
    /** The WRITE of LEND and RELEND: it makes nothing, and its CELLS have to be there. */
    private static final int CLAIMS = 4;

    private static final int IS_UNMADE = 1;
    private static final int IS_MADE = 2;
    private static final int IS_GONE = 4;

    private static final int FAULT_UNMADE = 1;
    private static final int FAULT_GONE = 2;
    private static final int FAULT_TAKEN = 3;
    private static final int FAULT_WRITTEN = 4;
    private static final int FAULT_READ = 5;
    private static final int FAULT_ENDED = 6;
    private static final int DETAILS = 7;

    private static final long DIGEST_START = 58057L;

    private final Told told;
    private final Check now;
    private final Check supposed;
    private boolean isChecked;

    public Ironwood() {
        told = new Told();
        now = new Check(MOST_FAULTS);
        supposed = new Check(0);
        isChecked = false;
    }

    // ---- what is told: each call that adds a STATEMENT tells its number.

    public int variable(int kind, boolean isParameter) throws IllegalArgumentException, IllegalStateException {
        if (kind < PLAIN || kind > ALONE) {
            throw new IllegalArgumentException("no such kind");
        }
        if (told.variableCount >= MOST_VARIABLES) {
            throw new IllegalStateException("there are as many variables as can be");
        }
        isChecked = false;
        return told.addVariable(kind, isParameter);
    }

    public int write(int variable, int place)
            throws IndexOutOfBoundsException, IllegalArgumentException, IllegalStateException {
        requireVariable(variable);
        int kind = told.kinds[variable];
        boolean isWhole = place == WHOLE && !told.isLoan(variable);
        boolean isBehind = place == BEHIND && kind == ALONE;
        if (!isWhole && !told.isField(variable, place) && !isBehind) {
            throw new IllegalArgumentException("no place to write");
        }
        requireRoom();
        int statement = begin(CODE_WRITE);
        if (isWhole) {
            told.addSetting(statement, variable, 0);
        } else {
            told.addAccess(statement, WRITES, variable, place);
        }
        return statement;
    }

    public int move(int to, int variable, int place)
            throws IndexOutOfBoundsException, IllegalArgumentException, IllegalStateException {
        requireVariable(to);
        requireVariable(variable);
        boolean isField = told.kinds[to] == OWNED && told.isField(variable, place);
        boolean isWhole = place == WHOLE && to != variable && told.kinds[to] == told.kinds[variable];
        if (!isField && !isWhole) {
            throw new IllegalArgumentException("no place to move from");
        }
        requireRoom();
        int statement = begin(CODE_MOVE);
        told.addAccess(statement, isField ? MOVES : told.takingOf(variable), variable, place);
        told.addSetting(statement, to, isField ? 0 : 1 << variable);
        return statement;
    }

    public int lend(int to, int variable, int place)
            throws IndexOutOfBoundsException, IllegalArgumentException, IllegalStateException {
        requireVariable(to);
        requireVariable(variable);
        boolean isWhole = place == WHOLE && !told.isLoan(variable);
        if (!told.isLoan(to) || !isWhole && !told.isField(variable, place)) {
            throw new IllegalArgumentException("nothing to lend, or none to hold it");
        }
        requireRoom();
        int statement = begin(CODE_LEND);
        told.addAccess(statement, told.lendingTo(to), variable, place);
        told.addSetting(statement, to, 0);
        return statement;
    }

    public int relend(int to, int from)
            throws IndexOutOfBoundsException, IllegalArgumentException, IllegalStateException {
        requireVariable(to);
        requireVariable(from);
        if (!told.isLoan(to) || !told.isLoan(from) || to == from) {
            throw new IllegalArgumentException("no two loans");
        }
        if (told.kinds[to] == ALONE && told.kinds[from] != ALONE) {
            throw new IllegalArgumentException("what is shared is not lent alone");
        }
        requireRoom();
        int statement = begin(CODE_RELEND);
        told.addAccess(statement, told.lendingTo(to), from, BEHIND);
        told.addSetting(statement, to, 1 << from);
        return statement;
    }

    public int read(int variable, int place)
            throws IndexOutOfBoundsException, IllegalArgumentException, IllegalStateException {
        requireVariable(variable);
        boolean isBehind = place == BEHIND && told.isLoan(variable);
        if (place != WHOLE && !told.isField(variable, place) && !isBehind) {
            throw new IllegalArgumentException("no place to read");
        }
        requireRoom();
        int statement = begin(CODE_READ);
        told.addAccess(statement, READS, variable, place);
        return statement;
    }

    public int drop(int variable) throws IndexOutOfBoundsException, IllegalStateException {
        requireVariable(variable);
        requireRoom();
        int statement = begin(CODE_DROP);
        told.addAccess(statement, DROPS, variable, WHOLE);
        return statement;
    }

    public int call(int to, int one, int other, int ties)
            throws IndexOutOfBoundsException, IllegalArgumentException, IllegalStateException {
        requireVariable(to);
        requireVariableOrNone(one);
        requireVariableOrNone(other);
        if (ties < 0 || ties > 3) {
            throw new IllegalArgumentException("no such ties");
        }
        if (one == other && one != NONE) {
            throw new IllegalArgumentException("one variable told twice");
        }
        requireRoom();
        int statement = begin(CODE_CALL);
        int sources = 0;
        if (one != NONE) {
            told.addAccess(statement, told.takingOf(one), one, WHOLE);
            sources |= (ties & 1) != 0 ? 1 << one : 0;
        }
        if (other != NONE) {
            told.addAccess(statement, told.takingOf(other), other, WHOLE);
            sources |= (ties & 2) != 0 ? 1 << other : 0;
        }
        told.addSetting(statement, to, sources);
        return statement;
    }

    public int branch(boolean isGo, int target) throws IllegalArgumentException, IllegalStateException {
        requireTarget(target);
        requireRoom();
        int statement = begin(isGo ? CODE_GO : CODE_IF);
        told.targets[statement] = target;
        return statement;
    }

    public int finish(int variable) throws IndexOutOfBoundsException, IllegalStateException {
        requireVariableOrNone(variable);
        requireRoom();
        int statement = begin(CODE_END);
        if (variable != NONE) {
            told.addAccess(statement, told.takingOf(variable), variable, WHOLE);
        }
        return statement;
    }

    public int setTarget(int statement, int target) throws IndexOutOfBoundsException, IllegalArgumentException {
        requireStatement(statement);
        if (!told.isBranch(statement)) {
            throw new IllegalArgumentException("neither IF nor GO");
        }
        requireTarget(target);
        isChecked = false;
        int before = told.targets[statement];
        told.targets[statement] = target;
        return before;
    }

    public int undo() throws IllegalStateException {
        if (told.statementCount <= 0) {
            throw new IllegalStateException("there is no statement");
        }
        isChecked = false;
        told.statementCount--;
        return told.statementCount;
    }

    public int variables() {
        return told.variableCount;
    }

    public int statements() {
        return told.statementCount;
    }

    public int codeOf(int statement) throws IndexOutOfBoundsException {
        requireStatement(statement);
        return told.codes[statement];
    }

    // ---- what can be.

    public boolean isReached(int statement) throws IndexOutOfBoundsException {
        requireStatement(statement);
        return checked().ways.comesTo(statement);
    }

    public int canBe(int statement, int variable, int place)
            throws IndexOutOfBoundsException, IllegalArgumentException {
        requireStatement(statement);
        requireVariable(variable);
        if (place != WHOLE && !told.isField(variable, place)) {
            throw new IllegalArgumentException("no place with cells");
        }
        return checked().ways.statesOf(statement, told.cellsOf(variable, place));
    }

    public int holds(int statement, int variable) throws IndexOutOfBoundsException {
        requireStatement(statement);
        requireVariable(variable);
        return Long.bitCount(checked().ways.loansIn(statement, variable));
    }

    public boolean canHold(int statement, int variable, int loan) throws IndexOutOfBoundsException {
        requireStatement(statement);
        requireVariable(variable);
        return told.isMadeLoan(loan) && isIn(checked().ways.loansIn(statement, variable), loan);
    }

    public int awaited(int statement) throws IndexOutOfBoundsException {
        requireStatement(statement);
        return checked().ways.awaiting[statement];
    }

    public int loans() {
        return checked().countLoans(told);
    }

    public boolean isLive(int loan, int statement) throws IndexOutOfBoundsException {
        requireStatement(statement);
        return told.isMadeLoan(loan) && isIn(checked().ways.living[statement], loan);
    }

    public int region(int loan) {
        return checked().sizeOfRegion(told, loan);
    }

    // ---- faults.

    public int faults() {
        return checked().noted.count;
    }

    public int ofFault(int fault, int what) throws IndexOutOfBoundsException, IllegalArgumentException {
        Check check = checked();
        if (fault < 0 || fault >= check.noted.count) {
            throw new IndexOutOfBoundsException("no such fault");
        }
        if (what < 0 || what >= DETAILS) {
            throw new IllegalArgumentException("nothing to tell of a fault");
        }
        return check.detail(told, fault, what);
    }

    public int faultsAt(int statement) throws IndexOutOfBoundsException {
        requireStatement(statement);
        return checked().noted.countAt(statement);
    }

    public int faultsOf(int code) throws IllegalArgumentException {
        if (code < FAULT_UNMADE || code > FAULT_ENDED) {
            throw new IllegalArgumentException("no such code");
        }
        return checked().noted.countOf(code);
    }

    // ---- what would be (nothing is changed).

    public int without(int statement) throws IndexOutOfBoundsException {
        requireStatement(statement);
        return countSupposing(statement, NONE);
    }

    public int copied(int statement) throws IndexOutOfBoundsException {
        requireStatement(statement);
        return countSupposing(NONE, statement);
    }

    public int culprit() {
        int fewest = checked().noted.count;
        int found = NONE;
        for (int statement = 0; statement < told.statementCount; statement++) {
            int count = countSupposing(statement, NONE);
            if (count < fewest) {
                fewest = count;
                found = statement;
            }
        }
        return found;
    }

    public double density() {
        Check check = checked();
        int reached = Long.bitCount(check.ways.reached);
        return reached > 0 ? (double) check.noted.count / (double) reached : 0.0;
    }

    public long digest() {
        Check check = checked();
        long sum = DIGEST_START;
        sum = sum * 31L + told.variableCount;
        sum = sum * 31L + told.statementCount;
        sum = sum * 31L + check.countLoans(told);
        sum = sum * 31L + check.noted.count;
        for (int statement = 0; statement < told.statementCount; statement++) {
            sum = addStatement(sum, check, statement);
        }
        for (int fault = 0; fault < check.noted.count; fault++) {
            for (int what = 0; what < DETAILS; what++) {
                sum = sum * 31L + check.detail(told, fault, what);
            }
        }
        for (int code = FAULT_UNMADE; code <= FAULT_ENDED; code++) {
            sum = sum * 31L + check.noted.countOf(code);
        }
        return sum;
    }

    private long addStatement(long before, Check check, int statement) {
        long sum = before;
        sum = sum * 31L + told.codes[statement];
        sum = sum * 31L + (check.ways.comesTo(statement) ? 1 : 0);
        sum = sum * 31L + check.ways.awaiting[statement];
        sum = sum * 31L + check.sizeOfRegion(told, statement);
        for (int variable = 0; variable < told.variableCount; variable++) {
            sum = sum * 31L + check.ways.statesOf(statement, told.cellsOf(variable, WHOLE));
            sum = sum * 31L + Long.bitCount(check.ways.loansIn(statement, variable));
        }
        return sum;
    }

    private int begin(int code) {
        isChecked = false;
        return told.addStatement(code);
    }

    /** What is found of all that is told now; it is looked for anew only if something was told since. */
    private Check checked() {
        if (!isChecked) {
            now.run(told, NONE, NONE);
            isChecked = true;
        }
        return now;
    }

    private int countSupposing(int skipped, int copy) {
        supposed.run(told, skipped, copy);
        return supposed.noted.count;
    }

    private void requireVariable(int variable) {
        if (variable < 0 || variable >= told.variableCount) {
            throw new IndexOutOfBoundsException("no such variable");
        }
    }

    private void requireVariableOrNone(int variable) {
        if (variable != NONE) {
            requireVariable(variable);
        }
    }

    private void requireStatement(int statement) {
        if (statement < 0 || statement >= told.statementCount) {
            throw new IndexOutOfBoundsException("no such statement");
        }
    }

    private void requireTarget(int target) {
        if (target < 0 || target > MOST_STATEMENTS) {
            throw new IllegalArgumentException("no such target");
        }
    }

    private void requireRoom() {
        if (told.statementCount >= MOST_STATEMENTS) {
            throw new IllegalStateException("there are as many statements as can be");
        }
    }

    private static boolean isIn(long set, int number) {
        return (set >> number & 1L) != 0L;
    }

    private static int smallestIn(long set) {
        return set == 0L ? NONE : Long.bitCount((set & -set) - 1L);
    }

    /** The variables and the STATEMENTS, each with its ACCESSES, what it SETS last. */
    private static final class Told {
        private final int[] kinds = new int[MOST_VARIABLES];
        private int variableCount;
        private long parameterCells;
        private long otherCells;

        private final int[] codes = new int[MOST_STATEMENTS];
        private final int[] targets = new int[MOST_STATEMENTS];
        /** The variable that is SET, or NONE. */
        private final int[] settings = new int[MOST_STATEMENTS];
        /** The set of variables whose LOANS the one that is SET holds then. */
        private final int[] sources = new int[MOST_STATEMENTS];
        private final int[] accessCounts = new int[MOST_STATEMENTS];
        private int statementCount;

        /** ACCESS k of STATEMENT s stands in the slot s * MOST_ACCESSES + k. */
        private final int[] acts = new int[MOST_STATEMENTS * MOST_ACCESSES];
        private final int[] actVariables = new int[MOST_STATEMENTS * MOST_ACCESSES];
        private final int[] actPlaces = new int[MOST_STATEMENTS * MOST_ACCESSES];

        private int addVariable(int kind, boolean isParameter) {
            int variable = variableCount;
            kinds[variable] = kind;
            variableCount++;
            long cells = cellsOf(variable, WHOLE);
            if (isParameter) {
                parameterCells |= cells;
            } else {
                otherCells |= cells;
            }
            return variable;
        }

        private int addStatement(int code) {
            int statement = statementCount;
            codes[statement] = code;
            targets[statement] = NONE;
            settings[statement] = NONE;
            sources[statement] = 0;
            accessCounts[statement] = 0;
            statementCount++;
            return statement;
        }

        private void addAccess(int statement, int act, int variable, int place) {
            int slot = statement * MOST_ACCESSES + accessCounts[statement];
            acts[slot] = act;
            actVariables[slot] = variable;
            actPlaces[slot] = place;
            accessCounts[statement]++;
        }

        private void addSetting(int statement, int variable, int from) {
            settings[statement] = variable;
            sources[statement] = from;
            addAccess(statement, WRITES, variable, WHOLE);
        }

        private boolean isLoan(int variable) {
            return kinds[variable] == SHARED || kinds[variable] == ALONE;
        }

        private boolean isField(int variable, int place) {
            return kinds[variable] == OWNED && place >= 0 && place < FIELDS;
        }

        private boolean isBranch(int statement) {
            return codes[statement] == CODE_IF || codes[statement] == CODE_GO;
        }

        private boolean isMadeLoan(int loan) {
            return loan >= 0 && loan < statementCount
                    && (codes[loan] == CODE_LEND || codes[loan] == CODE_RELEND);
        }

        private boolean isAloneLoan(int loan) {
            int variable = settings[loan];
            return variable != NONE && kinds[variable] == ALONE;
        }

        private int takingOf(int variable) {
            return kinds[variable] == OWNED || kinds[variable] == ALONE ? MOVES : READS;
        }

        private int lendingTo(int variable) {
            return kinds[variable] == SHARED ? READS : CLAIMS;
        }

        /** The set of CELLS of a PLACE; of BEHIND the one CELL of the LOAN, which has to be there. */
        private long cellsOf(int variable, int place) {
            int first = FIELDS * variable;
            if (kinds[variable] != OWNED) {
                return 1L << first;
            }
            return place == WHOLE ? 7L << first : 1L << (first + place);
        }

        private long cellsAt(int slot) {
            return cellsOf(actVariables[slot], actPlaces[slot]);
        }

        /** Whether an ACCESS USES its variable, which is also where its CELLS have to be there. */
        private boolean isUse(int act, int place) {
            return act == READS || act == MOVES || act == CLAIMS || act == WRITES && place == BEHIND;
        }

        private boolean meets(int act, int slot, int loan) {
            int lent = loan * MOST_ACCESSES;
            if (actVariables[slot] != actVariables[lent]) {
                return false;
            }
            int place = actPlaces[slot];
            int other = actPlaces[lent];
            if (place == other) {
                return true;
            }
            if (other == BEHIND) {
                return act == MOVES && place == WHOLE;
            }
            return place != BEHIND && (place == WHOLE || other == WHOLE);
        }
    }

    /** What each STATEMENT does, and where one goes from it, if one is skipped, or copies what it moves. */
    private static final class Steps {
        private final int[] nexts = new int[MOST_STATEMENTS];
        private final int[] jumps = new int[MOST_STATEMENTS];
        private final int[] uses = new int[MOST_STATEMENTS];
        private final int[] sets = new int[MOST_STATEMENTS];
        private final long[] changes = new long[MOST_STATEMENTS];
        private final long[] toUnmade = new long[MOST_STATEMENTS];
        private final long[] toMade = new long[MOST_STATEMENTS];
        private final long[] toGone = new long[MOST_STATEMENTS];
        private int count;
        private int skipped;
        private int copy;

        private void prepare(Told told, int skippedOne, int copiedOne) {
            count = told.statementCount;
            skipped = skippedOne;
            copy = copiedOne;
            for (int statement = 0; statement < count; statement++) {
                prepareWays(told, statement);
                prepareEffects(told, statement);
            }
        }

        private void prepareWays(Told told, int statement) {
            boolean isSkipped = statement == skipped;
            int code = told.codes[statement];
            boolean goesOn = isSkipped || code != CODE_GO && code != CODE_END;
            boolean jumpsAway = !isSkipped && told.isBranch(statement);
            nexts[statement] = goesOn ? existing(statement + 1) : NONE;
            jumps[statement] = jumpsAway ? existing(told.targets[statement]) : NONE;
        }

        private int existing(int statement) {
            return statement < count ? statement : NONE;
        }

        private void prepareEffects(Told told, int statement) {
            uses[statement] = 0;
            toUnmade[statement] = 0L;
            toMade[statement] = 0L;
            toGone[statement] = 0L;
            int accesses = accessesOf(told, statement);
            for (int k = 0; k < accesses; k++) {
                addEffect(told, statement, statement * MOST_ACCESSES + k);
            }
            changes[statement] = toUnmade[statement] | toMade[statement] | toGone[statement];
            int setting = statement == skipped ? NONE : told.settings[statement];
            sets[statement] = setting == NONE ? 0 : 1 << setting;
        }

        private void addEffect(Told told, int statement, int slot) {
            int act = actAt(told, statement, slot);
            int place = told.actPlaces[slot];
            if (told.isUse(act, place)) {
                uses[statement] |= 1 << told.actVariables[slot];
            }
            boolean isChange = act == MOVES || act == DROPS || act == WRITES && place != BEHIND;
            if (!isChange) {
                return;
            }
            long cells = told.cellsOf(told.actVariables[slot], place);
            toUnmade[statement] &= ~cells;
            toMade[statement] &= ~cells;
            toGone[statement] &= ~cells;
            if (act == DROPS) {
                toUnmade[statement] |= cells;
            } else if (act == MOVES) {
                toGone[statement] |= cells;
            } else {
                toMade[statement] |= cells;
            }
        }

        private int accessesOf(Told told, int statement) {
            return statement == skipped ? 0 : told.accessCounts[statement];
        }

        private int actAt(Told told, int statement, int slot) {
            int act = told.acts[slot];
            return act == MOVES && statement == copy ? READS : act;
        }
    }

    /** What can be ahead of each STATEMENT, along all ways. */
    private static final class Ways {
        private long reached;
        private final long[] unmade = new long[MOST_STATEMENTS];
        private final long[] made = new long[MOST_STATEMENTS];
        private final long[] gone = new long[MOST_STATEMENTS];
        /** The set of LOANS that a variable can hold, at statement * MOST_VARIABLES + variable. */
        private final long[] held = new long[MOST_STATEMENTS * MOST_VARIABLES];
        private final int[] awaiting = new int[MOST_STATEMENTS];
        private final long[] living = new long[MOST_STATEMENTS];
        /** What is used again for each look: the LOANS behind a STATEMENT, and the CELLS asked for. */
        private final long[] heldBehind = new long[MOST_VARIABLES];
        private final long[] asked = new long[MOST_STATEMENTS];

        private void begin(Told told, Steps steps) {
            for (int statement = 0; statement < steps.count; statement++) {
                unmade[statement] = 0L;
                made[statement] = 0L;
                gone[statement] = 0L;
                awaiting[statement] = 0;
                living[statement] = 0L;
                for (int variable = 0; variable < told.variableCount; variable++) {
                    held[statement * MOST_VARIABLES + variable] = 0L;
                }
            }
            reached = 0L;
            if (steps.count > 0) {
                reached = 1L;
                unmade[0] = told.otherCells;
                made[0] = told.parameterCells;
            }
        }

        private boolean comesTo(int statement) {
            return isIn(reached, statement);
        }

        private int statesOf(int statement, long cells) {
            int states = 0;
            states |= (unmade[statement] & cells) != 0L ? IS_UNMADE : 0;
            states |= (made[statement] & cells) != 0L ? IS_MADE : 0;
            states |= (gone[statement] & cells) != 0L ? IS_GONE : 0;
            return states;
        }

        private long loansIn(int statement, int variable) {
            return held[statement * MOST_VARIABLES + variable];
        }

        private void findAhead(Told told, Steps steps) {
            boolean isNew = true;
            for (int round = 0; round < MOST_ROUNDS && isNew; round++) {
                isNew = false;
                for (int statement = 0; statement < steps.count; statement++) {
                    if (comesTo(statement) && pass(told, steps, statement)) {
                        isNew = true;
                    }
                }
            }
        }

        /** Tells whether anything new came ahead of a STATEMENT to which one goes from here. */
        private boolean pass(Told told, Steps steps, int statement) {
            for (int variable = 0; variable < told.variableCount; variable++) {
                heldBehind[variable] = isIn(steps.sets[statement], variable)
                        ? loansSet(told, statement, variable)
                        : loansIn(statement, variable);
            }
            boolean isNew = arrive(told, steps, statement, steps.nexts[statement]);
            return arrive(told, steps, statement, steps.jumps[statement]) || isNew;
        }

        private long loansSet(Told told, int statement, int variable) {
            if (!told.isLoan(variable)) {
                return 0L;
            }
            long loans = told.isMadeLoan(statement) ? 1L << statement : 0L;
            for (int source = 0; source < told.variableCount; source++) {
                if (isIn(told.sources[statement], source)) {
                    loans |= loansIn(statement, source);
                }
            }
            return loans;
        }

        private boolean arrive(Told told, Steps steps, int from, int to) {
            if (to == NONE) {
                return false;
            }
            long before = reached;
            reached |= 1L << to;
            boolean isNew = reached != before;
            long kept = ~steps.changes[from];
            isNew |= addTo(unmade, to, steps.toUnmade[from] | unmade[from] & kept);
            isNew |= addTo(made, to, steps.toMade[from] | made[from] & kept);
            isNew |= addTo(gone, to, steps.toGone[from] | gone[from] & kept);
            for (int variable = 0; variable < told.variableCount; variable++) {
                isNew |= addTo(held, to * MOST_VARIABLES + variable, heldBehind[variable]);
            }
            return isNew;
        }

        private static boolean addTo(long[] sets, int at, long more) {
            long before = sets[at];
            sets[at] = before | more;
            return sets[at] != before;
        }

        private void findAwaited(Steps steps) {
            boolean isNew = true;
            for (int round = 0; round < MOST_ROUNDS && isNew; round++) {
                isNew = false;
                for (int statement = steps.count - 1; statement >= 0; statement--) {
                    if (comesTo(statement) && await(steps, statement)) {
                        isNew = true;
                    }
                }
            }
        }

        private boolean await(Steps steps, int statement) {
            int later = awaitedAt(steps.nexts[statement]) | awaitedAt(steps.jumps[statement]);
            int before = awaiting[statement];
            awaiting[statement] = steps.uses[statement] | later & ~steps.sets[statement];
            return awaiting[statement] != before;
        }

        private int awaitedAt(int statement) {
            return statement == NONE ? 0 : awaiting[statement];
        }

        private void findLiving(Told told, Steps steps) {
            for (int statement = 0; statement < steps.count; statement++) {
                for (int variable = 0; variable < told.variableCount; variable++) {
                    if (isIn(awaiting[statement], variable)) {
                        living[statement] |= loansIn(statement, variable);
                    }
                }
            }
        }

        private int holderOf(Told told, int statement, int loan) {
            for (int variable = 0; variable < told.variableCount; variable++) {
                if (isIn(awaiting[statement], variable) && isIn(loansIn(statement, variable), loan)) {
                    return variable;
                }
            }
            return NONE;
        }

        /** The smallest STATEMENT that USES the variable, on a way on which none ahead of it SETS it. */
        private int nextUse(Steps steps, int from, int variable) {
            long come = 1L << from;
            long before = 0L;
            for (int round = 0; round < MOST_ROUNDS && come != before; round++) {
                before = come;
                for (int statement = 0; statement < steps.count; statement++) {
                    if (isIn(come, statement) && !isIn(steps.sets[statement], variable)) {
                        come |= bitOf(steps.nexts[statement]) | bitOf(steps.jumps[statement]);
                    }
                }
            }
            for (int statement = 0; statement < steps.count; statement++) {
                if (isIn(come, statement) && isIn(steps.uses[statement], variable)) {
                    return statement;
                }
            }
            return NONE;
        }

        private static long bitOf(int statement) {
            return statement == NONE ? 0L : 1L << statement;
        }

        /** The smallest STATEMENT by which one of the CELLS can be GONE ahead of a STATEMENT. */
        private int smallestMover(Steps steps, int statement, long cells) {
            for (int each = 0; each < steps.count; each++) {
                asked[each] = 0L;
            }
            asked[statement] = cells;
            long movers = 0L;
            boolean isNew = true;
            for (int round = 0; round < MOST_ROUNDS && isNew; round++) {
                isNew = false;
                for (int each = steps.count - 1; each >= 0; each--) {
                    long behind = askedAt(steps.nexts[each]) | askedAt(steps.jumps[each]);
                    if (comesTo(each) && (behind & steps.toGone[each]) != 0L) {
                        movers |= 1L << each;
                    }
                    isNew |= addTo(asked, each, behind & ~steps.changes[each]);
                }
            }
            return smallestIn(movers);
        }

        private long askedAt(int statement) {
            return statement == NONE ? 0L : asked[statement];
        }
    }

    /** The FAULTS as they are noted; those beyond its rows are only counted. */
    private static final class Noted {
        private final int[] slots;
        private final int[] codes;
        private final int[] reasons;
        private int count;

        private Noted(int rows) {
            slots = new int[rows];
            codes = new int[rows];
            reasons = new int[rows];
        }

        private void noteAll(Told told, Steps steps, Ways ways) {
            count = 0;
            for (int statement = 0; statement < steps.count; statement++) {
                int accesses = ways.comesTo(statement) ? steps.accessesOf(told, statement) : 0;
                for (int k = 0; k < accesses; k++) {
                    int slot = statement * MOST_ACCESSES + k;
                    int act = steps.actAt(told, statement, slot);
                    noteCells(told, ways, slot, act);
                    noteLoan(told, ways, slot, act);
                    noteEnd(told, ways, slot);
                }
            }
        }

        private void noteCells(Told told, Ways ways, int slot, int act) {
            if (!told.isUse(act, told.actPlaces[slot])) {
                return;
            }
            int states = ways.statesOf(slot / MOST_ACCESSES, told.cellsAt(slot));
            if ((states & IS_UNMADE) != 0) {
                note(slot, FAULT_UNMADE, NONE);
            }
            if ((states & IS_GONE) != 0) {
                note(slot, FAULT_GONE, NONE);
            }
        }

        private void noteLoan(Told told, Ways ways, int slot, int act) {
            long living = ways.living[slot / MOST_ACCESSES];
            if (living == 0L) {
                return;
            }
            for (int loan = 0; loan < told.statementCount; loan++) {
                boolean isTold = isIn(living, loan) && told.meets(act, slot, loan)
                        && (act != READS || told.isAloneLoan(loan));
                if (isTold) {
                    note(slot, codeAgainst(act), loan);
                    return;
                }
            }
        }

        private static int codeAgainst(int act) {
            if (act == READS) {
                return FAULT_READ;
            }
            return act == MOVES || act == DROPS ? FAULT_TAKEN : FAULT_WRITTEN;
        }

        private void noteEnd(Told told, Ways ways, int slot) {
            int statement = slot / MOST_ACCESSES;
            if (told.codes[statement] != CODE_END) {
                return;
            }
            long loans = ways.loansIn(statement, told.actVariables[slot]);
            for (int loan = 0; loan < told.statementCount; loan++) {
                if (isIn(loans, loan) && told.actPlaces[loan * MOST_ACCESSES] != BEHIND) {
                    note(slot, FAULT_ENDED, loan);
                    return;
                }
            }
        }

        private void note(int slot, int code, int reason) {
            if (count < slots.length) {
                slots[count] = slot;
                codes[count] = code;
                reasons[count] = reason;
            }
            count++;
        }

        private int rowCount() {
            return Math.min(count, slots.length);
        }

        private int countAt(int statement) {
            int found = 0;
            for (int row = 0; row < rowCount(); row++) {
                found += slots[row] / MOST_ACCESSES == statement ? 1 : 0;
            }
            return found;
        }

        private int countOf(int code) {
            int found = 0;
            for (int row = 0; row < rowCount(); row++) {
                found += codes[row] == code ? 1 : 0;
            }
            return found;
        }
    }

    /** All that is found of what is told, if one STATEMENT is skipped, or copies what it moves. */
    private static final class Check {
        private final Steps steps;
        private final Ways ways;
        private final Noted noted;

        private Check(int rows) {
            steps = new Steps();
            ways = new Ways();
            noted = new Noted(rows);
        }

        private void run(Told told, int skipped, int copy) {
            steps.prepare(told, skipped, copy);
            ways.begin(told, steps);
            ways.findAhead(told, steps);
            ways.findAwaited(steps);
            ways.findLiving(told, steps);
            noted.noteAll(told, steps, ways);
        }

        private int countLoans(Told told) {
            int found = 0;
            for (int loan = 0; loan < told.statementCount; loan++) {
                found += told.isMadeLoan(loan) && ways.comesTo(loan) ? 1 : 0;
            }
            return found;
        }

        private int sizeOfRegion(Told told, int loan) {
            if (!told.isMadeLoan(loan) || !ways.comesTo(loan)) {
                return NONE;
            }
            int found = 0;
            for (int statement = 0; statement < told.statementCount; statement++) {
                found += isIn(ways.living[statement], loan) ? 1 : 0;
            }
            return found;
        }

        private int detail(Told told, int fault, int what) {
            if (fault < 0 || fault >= noted.rowCount()) {
                return NONE;
            }
            int slot = noted.slots[fault];
            switch (what) {
                case 0:
                    return slot / MOST_ACCESSES;
                case 1:
                    return noted.codes[fault];
                case 2:
                    return told.actVariables[slot];
                case 3:
                    return told.actPlaces[slot];
                case 4:
                    return reasonOf(told, fault);
                case 5:
                    return holderOf(told, fault);
                default:
                    return nextOf(told, fault);
            }
        }

        private int reasonOf(Told told, int fault) {
            int slot = noted.slots[fault];
            return noted.codes[fault] == FAULT_GONE
                    ? ways.smallestMover(steps, slot / MOST_ACCESSES, told.cellsAt(slot))
                    : noted.reasons[fault];
        }

        private int holderOf(Told told, int fault) {
            int code = noted.codes[fault];
            boolean hasHolder = code == FAULT_TAKEN || code == FAULT_WRITTEN || code == FAULT_READ;
            return hasHolder
                    ? ways.holderOf(told, noted.slots[fault] / MOST_ACCESSES, noted.reasons[fault])
                    : NONE;
        }

        private int nextOf(Told told, int fault) {
            int holder = holderOf(told, fault);
            return holder == NONE
                    ? NONE
                    : ways.nextUse(steps, noted.slots[fault] / MOST_ACCESSES, holder);
        }
    }
}
