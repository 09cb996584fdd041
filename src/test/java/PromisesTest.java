/** Each promise of the document: ordinary calls, the edges that it names, and wrong calls. */
public final class PromisesTest extends Samples {
    private PromisesTest() {
    }

    public static void main(String[] args) {
        aNewObject();
        variable();
        write();
        writeMakes();
        move();
        moveTakes();
        lend();
        lendClaims();
        relend();
        relendHolds();
        read();
        drop();
        call();
        callTies();
        branch();
        finish();
        setTarget();
        undo();
        counts();
        isReached();
        canBe();
        holds();
        awaited();
        loansAndRegions();
        faultsOfCells();
        faultsOfLoans();
        faultsOfEnds();
        faultOrder();
        reasons();
        holdersAndNexts();
        without();
        copied();
        culprit();
        density();
        digest();
        manyCalls();
        Expect.end("PromisesTest");
    }

    private static Ironwood fortyReads() {
        Ironwood x = ofEachKind();
        while (x.statements() < 40) {
            x.read(0, WHOLE);
        }
        return x;
    }

    /** The call has to throw, and to change nothing. */
    private static void refused(Ironwood x, String call, Class<? extends RuntimeException> due, Runnable run) {
        long before = x.digest();
        int last = x.statements() - 1;
        int code = last >= 0 ? x.codeOf(last) : -1;
        Expect.throwing(call, due, run);
        Expect.same(call + " leaves variables and all else", x.digest(), before);
        Expect.same(call + " leaves the last code", last >= 0 ? x.codeOf(last) : -1, code);
    }

    private static void fault(Ironwood x, int fault, int... due) {
        for (int what = 0; what < due.length; what++) {
            Expect.same("ofFault(" + fault + ", " + what + ")", x.ofFault(fault, what), due[what]);
        }
    }

    private static void aNewObject() {
        Ironwood x = new Ironwood();
        Expect.same("variables() of a new one", x.variables(), 0);
        Expect.same("statements() of a new one", x.statements(), 0);
        Expect.same("loans() of a new one", x.loans(), 0);
        Expect.same("faults() of a new one", x.faults(), 0);
        Expect.same("culprit() of a new one", x.culprit(), -1);
        Expect.same("density() of a new one", x.density(), 0.0);
        Expect.same("region(0) of a new one", x.region(0), -1);
        Expect.throwing("isReached(0) of a new one", INDEX, () -> x.isReached(0));
        Ironwood other = new Ironwood();
        other.variable(PLAIN, false);
        Expect.same("variables() of one beside another", x.variables(), 0);
    }

    private static void variable() {
        Ironwood x = new Ironwood();
        for (int number = 0; number < 12; number++) {
            refused(x, "variable(-1)", ARGUMENT, () -> x.variable(-1, false));
            refused(x, "variable(4)", ARGUMENT, () -> x.variable(4, true));
            Expect.same("variable()", x.variable(number % 4, number % 2 == 0), number);
        }
        refused(x, "the 13th variable", STATE, () -> x.variable(0, false));
        refused(x, "the 13th variable of no kind", ARGUMENT, () -> x.variable(4, false));
        Expect.same("variables()", x.variables(), 12);
        x.read(11, WHOLE);
        Expect.same("canBe() of a parameter", x.canBe(0, 10, WHOLE), 2);
        Expect.same("canBe() of no parameter", x.canBe(0, 11, WHOLE), 1);
        Ironwood late = new Ironwood();
        late.drop(late.variable(OWNED, true));
        late.variable(OWNED, true);
        Expect.same("canBe() of a variable told later", late.canBe(0, 1, 2), 2);
        Expect.same("canBe() of the one before", late.canBe(0, 0, WHOLE), 2);
    }

    private static void write() {
        Ironwood x = ofEachKind();
        refused(x, "write(-1, 9)", INDEX, () -> x.write(-1, 9));
        refused(x, "write(8, -1)", INDEX, () -> x.write(8, WHOLE));
        int due = 0;
        for (int variable = 0; variable < 4; variable++) {
            for (int place = -3; place <= 5; place++) {
                int v = variable;
                int p = place;
                boolean isFit = p == WHOLE && v <= OWNED || v == OWNED && p >= 0 && p <= 2
                        || v == ALONE && p == BEHIND;
                if (isFit) {
                    Expect.same("write(" + v + ", " + p + ")", x.write(v, p), due);
                    Expect.same("its code", x.codeOf(due), 0);
                    due++;
                } else {
                    refused(x, "write(" + v + ", " + p + ")", ARGUMENT, () -> x.write(v, p));
                }
            }
        }
        Expect.same("statements()", x.statements(), 6);
        Ironwood full = fortyReads();
        refused(full, "the 41st write", STATE, () -> full.write(0, WHOLE));
        refused(full, "the 41st write of no place", ARGUMENT, () -> full.write(0, 0));
        refused(full, "the 41st write of no variable", INDEX, () -> full.write(8, 0));
    }

    private static void writeMakes() {
        Ironwood x = new Ironwood();
        x.variable(OWNED, false);
        x.variable(ALONE, false);
        x.write(0, 1);
        x.write(0, WHOLE);
        x.write(1, BEHIND);
        x.read(0, WHOLE);
        Expect.same("canBe() ahead of a write", x.canBe(0, 0, 1), 1);
        Expect.same("canBe() of the field that is written", x.canBe(1, 0, 1), 2);
        Expect.same("canBe() of the field beside", x.canBe(1, 0, 0), 1);
        Expect.same("canBe() of all", x.canBe(1, 0, WHOLE), 3);
        Expect.same("canBe() of a whole that is written", x.canBe(2, 0, WHOLE), 2);
        Expect.same("canBe() of a loan written behind", x.canBe(3, 1, WHOLE), 1);
        Expect.same("faults()", x.faults(), 1);
        fault(x, 0, 2, 1, 1, BEHIND, -1, -1, -1);
        Expect.same("awaited() at a write behind", x.awaited(2), 1 + 2);
        Expect.same("awaited() at a write of a field", x.awaited(0), 2);
    }

    private static void move() {
        Ironwood x = ofEachKind();
        refused(x, "move(8, 0, 9)", INDEX, () -> x.move(8, 0, 9));
        refused(x, "move(0, -1, 9)", INDEX, () -> x.move(0, -1, 9));
        int due = 0;
        for (int to = 0; to < 8; to++) {
            for (int variable = 0; variable < 8; variable++) {
                for (int place = -2; place <= 4; place++) {
                    int t = to;
                    int v = variable;
                    int p = place;
                    boolean isFit = p == WHOLE ? t != v && t % 4 == v % 4
                            : t % 4 == OWNED && v % 4 == OWNED && p >= 0 && p <= 2;
                    String call = "move(" + t + ", " + v + ", " + p + ")";
                    if (isFit) {
                        Expect.same(call, x.move(t, v, p), due);
                        Expect.same("its code", x.codeOf(due), 1);
                        due++;
                    } else {
                        Ironwood y = ofEachKind();
                        refused(y, call, ARGUMENT, () -> y.move(t, v, p));
                    }
                }
            }
        }
        Expect.same("statements()", x.statements(), 8 + 12);
        Ironwood full = fortyReads();
        refused(full, "the 41st move", STATE, () -> full.move(0, 4, WHOLE));
        refused(full, "the 41st move of no place", ARGUMENT, () -> full.move(0, 0, WHOLE));
        refused(full, "the 41st move of no variable", INDEX, () -> full.move(0, 8, 0));
    }

    private static void moveTakes() {
        Ironwood x = ofEachKind();
        x.move(0, 4, WHOLE);
        x.move(1, 5, WHOLE);
        x.move(2, 6, WHOLE);
        x.move(3, 7, WHOLE);
        x.finish(-1);
        Expect.same("canBe() of a plain one behind a move", x.canBe(4, 4, WHOLE), 2);
        Expect.same("canBe() of an owned one behind a move", x.canBe(4, 5, WHOLE), 4);
        Expect.same("canBe() of a shared loan behind a move", x.canBe(4, 6, WHOLE), 2);
        Expect.same("canBe() of a loan alone behind a move", x.canBe(4, 7, WHOLE), 4);
        Ironwood y = ofEachKind();
        y.move(1, 1, 2);
        y.move(5, 1, 0);
        y.drop(5);
        y.move(5, 1, 1);
        y.finish(-1);
        Expect.same("canBe() behind a move of an own field", y.canBe(1, 1, WHOLE), 2);
        Expect.same("canBe() of a field that is moved", y.canBe(2, 1, 0), 4);
        Expect.same("canBe() of a field beside", y.canBe(2, 1, 1), 2);
        Expect.same("canBe() of what is dropped", y.canBe(3, 5, WHOLE), 1);
        Expect.same("canBe() of what is set", y.canBe(4, 5, WHOLE), 2);
        Expect.same("faults()", y.faults(), 0);
    }

    private static void lend() {
        Ironwood x = ofEachKind();
        refused(x, "lend(8, 0, 9)", INDEX, () -> x.lend(8, 0, 9));
        refused(x, "lend(2, -1, 9)", INDEX, () -> x.lend(2, -1, 9));
        int due = 0;
        for (int to = 0; to < 4; to++) {
            for (int variable = 0; variable < 4; variable++) {
                for (int place = -2; place <= 4; place++) {
                    int t = to;
                    int v = variable;
                    int p = place;
                    boolean isFit = t >= SHARED && (v <= OWNED && p == WHOLE || v == OWNED && p >= 0 && p <= 2);
                    String call = "lend(" + t + ", " + v + ", " + p + ")";
                    if (isFit) {
                        Expect.same(call, x.lend(t, v, p), due);
                        Expect.same("its code", x.codeOf(due), 2);
                        due++;
                    } else {
                        Ironwood y = ofEachKind();
                        refused(y, call, ARGUMENT, () -> y.lend(t, v, p));
                    }
                }
            }
        }
        Expect.same("loans()", x.loans(), 10);
        Ironwood full = fortyReads();
        refused(full, "the 41st lend", STATE, () -> full.lend(2, 0, WHOLE));
        refused(full, "the 41st lend to a plain one", ARGUMENT, () -> full.lend(0, 0, WHOLE));
        refused(full, "the 41st lend of no variable", INDEX, () -> full.lend(0, 8, 0));
    }

    private static void lendClaims() {
        Ironwood x = new Ironwood();
        x.variable(OWNED, false);
        x.variable(SHARED, false);
        x.variable(ALONE, false);
        x.lend(2, 0, 1);
        x.lend(1, 0, WHOLE);
        x.finish(-1);
        Expect.same("canBe() of what is lent alone", x.canBe(1, 0, 1), 1);
        Expect.same("canBe() of the loan alone", x.canBe(1, 2, WHOLE), 2);
        Expect.same("canBe() of the shared loan", x.canBe(2, 1, WHOLE), 2);
        Expect.same("awaited() at a lend alone", x.awaited(0), 1);
        Expect.same("faults()", x.faults(), 2);
        fault(x, 0, 0, 1, 0, 1, -1, -1, -1);
        fault(x, 1, 1, 1, 0, WHOLE, -1, -1, -1);
    }

    private static void relend() {
        Ironwood x = ofEachKind();
        refused(x, "relend(8, 2)", INDEX, () -> x.relend(8, 2));
        refused(x, "relend(0, -1)", INDEX, () -> x.relend(0, -1));
        int due = 0;
        for (int to = 0; to < 8; to++) {
            for (int from = 0; from < 8; from++) {
                int t = to;
                int f = from;
                boolean isFit = t != f && t % 4 >= SHARED && f % 4 >= SHARED && (t % 4 == SHARED || f % 4 == ALONE);
                String call = "relend(" + t + ", " + f + ")";
                if (isFit) {
                    Expect.same(call, x.relend(t, f), due);
                    Expect.same("its code", x.codeOf(due), 3);
                    due++;
                } else {
                    Ironwood y = ofEachKind();
                    refused(y, call, ARGUMENT, () -> y.relend(t, f));
                }
            }
        }
        Expect.same("loans()", x.loans(), 2 + 2 + 4);
        Ironwood full = fortyReads();
        refused(full, "the 41st relend", STATE, () -> full.relend(2, 3));
        refused(full, "the 41st relend of the same", ARGUMENT, () -> full.relend(2, 2));
        refused(full, "the 41st relend of no variable", INDEX, () -> full.relend(2, 8));
    }

    private static void relendHolds() {
        Ironwood x = ofEachKind();
        x.lend(3, 1, 0);
        x.relend(7, 3);
        x.relend(2, 7);
        x.read(2, BEHIND);
        Expect.same("holds() of what is lent", x.holds(3, 3), 1);
        Expect.same("holds() of what is lent again", x.holds(3, 7), 2);
        Expect.same("holds() of what is lent again and again", x.holds(3, 2), 3);
        Expect.yes("canHold() of its own", x.canHold(3, 2, 2));
        Expect.yes("canHold() of the first", x.canHold(3, 2, 0));
        Expect.no("canHold() of a later one", x.canHold(3, 7, 2));
        Expect.same("awaited() at a relend", x.awaited(1), 1 << 3);
        Ironwood y = new Ironwood();
        y.variable(ALONE, false);
        y.variable(ALONE, true);
        y.relend(1, 0);
        fault(y, 0, 0, 1, 0, BEHIND, -1, -1, -1);
        Expect.same("faults() of a relend of what is unmade", y.faults(), 1);
    }

    private static void read() {
        Ironwood x = ofEachKind();
        refused(x, "read(-1, 9)", INDEX, () -> x.read(-1, 9));
        refused(x, "read(8, -1)", INDEX, () -> x.read(8, WHOLE));
        int due = 0;
        for (int variable = 0; variable < 4; variable++) {
            for (int place = -3; place <= 5; place++) {
                int v = variable;
                int p = place;
                boolean isFit = p == WHOLE || v == OWNED && p >= 0 && p <= 2 || v >= SHARED && p == BEHIND;
                String call = "read(" + v + ", " + p + ")";
                if (isFit) {
                    Expect.same(call, x.read(v, p), due);
                    Expect.same("its code", x.codeOf(due), 4);
                    due++;
                } else {
                    refused(x, call, ARGUMENT, () -> x.read(v, p));
                }
            }
        }
        Expect.same("statements()", x.statements(), 9);
        Expect.same("faults()", x.faults(), 0);
        Ironwood full = fortyReads();
        refused(full, "the 41st read", STATE, () -> full.read(0, WHOLE));
        refused(full, "the 41st read of no place", ARGUMENT, () -> full.read(0, 3));
        refused(full, "the 41st read of no variable", INDEX, () -> full.read(8, 3));
    }

    private static void drop() {
        Ironwood x = ofEachKind();
        refused(x, "drop(-1)", INDEX, () -> x.drop(-1));
        refused(x, "drop(8)", INDEX, () -> x.drop(8));
        for (int variable = 0; variable < 4; variable++) {
            Expect.same("drop(" + variable + ")", x.drop(variable), variable);
            Expect.same("its code", x.codeOf(variable), 5);
        }
        x.finish(-1);
        for (int variable = 0; variable < 4; variable++) {
            Expect.same("canBe() behind a drop", x.canBe(4, variable, WHOLE), 1);
            Expect.same("awaited() at a drop", x.awaited(variable), 0);
        }
        x.undo();
        x.drop(0);
        Expect.same("faults() of a drop of what is unmade", x.faults(), 0);
        Ironwood full = fortyReads();
        refused(full, "the 41st drop", STATE, () -> full.drop(0));
        refused(full, "the 41st drop of no variable", INDEX, () -> full.drop(8));
    }

    private static void call() {
        Ironwood x = ofEachKind();
        refused(x, "call(-1, 0, 0, 9)", INDEX, () -> x.call(-1, 0, 0, 9));
        refused(x, "call(8, 0, 1, 0)", INDEX, () -> x.call(8, 0, 1, 0));
        refused(x, "call(0, -2, 1, 0)", INDEX, () -> x.call(0, -2, 1, 0));
        refused(x, "call(0, 8, 1, 0)", INDEX, () -> x.call(0, 8, 1, 0));
        refused(x, "call(0, 1, -2, 0)", INDEX, () -> x.call(0, 1, -2, 0));
        refused(x, "call(0, 1, 8, 4)", INDEX, () -> x.call(0, 1, 8, 4));
        refused(x, "call(0, 1, 2, -1)", ARGUMENT, () -> x.call(0, 1, 2, -1));
        refused(x, "call(0, 1, 2, 4)", ARGUMENT, () -> x.call(0, 1, 2, 4));
        refused(x, "call(0, 1, 1, 0)", ARGUMENT, () -> x.call(0, 1, 1, 0));
        Expect.same("call of none", x.call(0, -1, -1, 3), 0);
        Expect.same("call of one", x.call(1, 1, -1, 1), 1);
        Expect.same("call of the other", x.call(2, -1, 3, 2), 2);
        Expect.same("call of both", x.call(5, 5, 7, 0), 3);
        Expect.same("its code", x.codeOf(3), 6);
        Expect.same("read behind it", x.read(5, WHOLE), 4);
        Expect.same("canBe() of what is called and set", x.canBe(2, 1, WHOLE), 2);
        Expect.same("canBe() of the other", x.canBe(3, 3, WHOLE), 4);
        Expect.same("faults()", x.faults(), 0);
        Ironwood full = fortyReads();
        refused(full, "the 41st call", STATE, () -> full.call(0, -1, -1, 0));
        refused(full, "the 41st call with no ties", ARGUMENT, () -> full.call(0, -1, -1, 4));
        refused(full, "the 41st call of no variable", INDEX, () -> full.call(0, 9, -1, 4));
    }

    private static void callTies() {
        for (int ties = 0; ties <= 3; ties++) {
            Ironwood x = ofEachKind();
            x.lend(2, 0, WHOLE);
            x.lend(6, 4, WHOLE);
            x.lend(3, 1, WHOLE);
            x.call(3, 2, 6, ties);
            x.call(0, 2, 6, ties);
            x.call(7, -1, 2, ties);
            x.call(2, 2, 6, ties);
            x.finish(-1);
            Expect.same("canHold() of one", x.canHold(4, 3, 0) ? 1 : 0, ties & 1);
            Expect.same("canHold() of the other", x.canHold(4, 3, 1) ? 1 : 0, ties >> 1);
            Expect.no("canHold() of what it held", x.canHold(4, 3, 2));
            Expect.same("holds() of a plain one", x.holds(5, 0), 0);
            Expect.same("holds() by a call without one", x.holds(6, 7), ties >> 1);
            Expect.same("canHold() of a call of itself", x.canHold(7, 2, 0) ? 1 : 0, ties & 1);
            Expect.same("holds() of a call of itself", x.holds(7, 2), Integer.bitCount(ties));
        }
    }

    private static void branch() {
        Ironwood x = new Ironwood();
        refused(x, "branch(IF, -1)", ARGUMENT, () -> x.branch(IF, -1));
        refused(x, "branch(GO, 41)", ARGUMENT, () -> x.branch(GO, 41));
        Expect.same("branch(IF, 40)", x.branch(IF, 40), 0);
        Expect.same("its code", x.codeOf(0), 7);
        Expect.same("branch(GO, 0)", x.branch(GO, 0), 1);
        Expect.same("its code", x.codeOf(1), 8);
        x.branch(GO, 40);
        Expect.no("isReached() behind a GO", x.isReached(2));
        Expect.same("faults()", x.faults(), 0);
        x.branch(IF, 3);
        x.setTarget(0, 3);
        Expect.yes("isReached() by an IF", x.isReached(3));
        Expect.no("isReached() of what is between", x.isReached(2));
        Ironwood self = new Ironwood();
        self.branch(GO, 0);
        self.branch(IF, 2);
        Expect.yes("isReached() of one going to itself", self.isReached(0));
        Expect.no("isReached() behind it", self.isReached(1));
        Ironwood full = fortyReads();
        refused(full, "the 41st branch", STATE, () -> full.branch(IF, 0));
        refused(full, "the 41st branch to no target", ARGUMENT, () -> full.branch(GO, 41));
    }

    private static void finish() {
        Ironwood x = ofEachKind();
        refused(x, "finish(-2)", INDEX, () -> x.finish(-2));
        refused(x, "finish(8)", INDEX, () -> x.finish(8));
        x.branch(IF, 2);
        Expect.same("finish(1)", x.finish(1), 1);
        Expect.same("its code", x.codeOf(1), 9);
        Expect.same("finish(-1)", x.finish(-1), 2);
        Expect.same("read behind an end", x.read(1, WHOLE), 3);
        Expect.no("isReached() behind an end", x.isReached(3));
        Expect.same("canBe() where one cannot come", x.canBe(3, 1, WHOLE), 0);
        Expect.same("awaited() at an end", x.awaited(1), 2);
        Expect.same("awaited() at an end of none", x.awaited(2), 0);
        Expect.same("awaited() where one cannot come", x.awaited(3), 0);
        Ironwood full = fortyReads();
        refused(full, "the 41st end", STATE, () -> full.finish(-1));
        refused(full, "the 41st end of no variable", INDEX, () -> full.finish(9));
    }

    private static void setTarget() {
        Ironwood x = ofEachKind();
        x.branch(IF, 40);
        x.branch(GO, 5);
        x.read(0, WHOLE);
        x.finish(-1);
        refused(x, "setTarget(-1, 99)", INDEX, () -> x.setTarget(-1, 99));
        refused(x, "setTarget(4, 0)", INDEX, () -> x.setTarget(4, 0));
        refused(x, "setTarget(2, 0)", ARGUMENT, () -> x.setTarget(2, 0));
        refused(x, "setTarget(3, 0)", ARGUMENT, () -> x.setTarget(3, 0));
        refused(x, "setTarget(0, -1)", ARGUMENT, () -> x.setTarget(0, -1));
        refused(x, "setTarget(0, 41)", ARGUMENT, () -> x.setTarget(0, 41));
        Expect.no("isReached(2)", x.isReached(2));
        Expect.same("setTarget(0, 2)", x.setTarget(0, 2), 40);
        Expect.yes("isReached(2) from now on", x.isReached(2));
        Expect.same("setTarget(0, 0)", x.setTarget(0, 0), 2);
        Expect.no("isReached(2) no more", x.isReached(2));
        Expect.same("setTarget(1, 40)", x.setTarget(1, 40), 5);
        Expect.same("setTarget(1, 3)", x.setTarget(1, 3), 40);
        Expect.yes("isReached(3) by a GO", x.isReached(3));
        Expect.same("codeOf(0)", x.codeOf(0), 7);
        Ironwood full = fortyReads();
        full.undo();
        full.branch(IF, 40);
        Expect.same("setTarget() of the last one", full.setTarget(39, 0), 40);
    }

    private static void undo() {
        Ironwood empty = ofEachKind();
        refused(empty, "undo() of none", STATE, () -> empty.undo());
        Ironwood x = fortyReads();
        for (int left = 39; left >= 1; left--) {
            Expect.same("undo()", x.undo(), left);
        }
        Ironwood once = ofEachKind();
        once.read(0, WHOLE);
        Expect.same("undo() of all", x.undo(), 0);
        Expect.same("variables() stay", x.variables(), 8);
        Expect.same("a statement after it", x.read(0, WHOLE), 0);
        Expect.same("digest() is as if nothing had been", x.digest(), once.digest());
        x.undo();
        x.branch(IF, 2);
        x.lend(3, 0, WHOLE);
        x.read(3, BEHIND);
        Expect.yes("isLive(1, 2)", x.isLive(1, 2));
        x.undo();
        x.undo();
        Expect.same("loans() behind undo()", x.loans(), 0);
        Expect.same("region(1) behind undo()", x.region(1), -1);
        x.write(0, WHOLE);
        x.read(3, BEHIND);
        Expect.same("holds() behind undo()", x.holds(2, 3), 0);
        Expect.no("canHold() behind undo()", x.canHold(2, 3, 1));
    }

    private static void counts() {
        Ironwood x = ofEachKind();
        Expect.same("variables()", x.variables(), 8);
        Expect.same("statements()", x.statements(), 0);
        x.read(0, WHOLE);
        Expect.same("statements() of one", x.statements(), 1);
        Expect.throwing("codeOf(-1)", INDEX, () -> x.codeOf(-1));
        Expect.throwing("codeOf(1)", INDEX, () -> x.codeOf(1));
        Ironwood full = fortyReads();
        Expect.same("statements() of 40", full.statements(), 40);
        Expect.same("codeOf(39)", full.codeOf(39), 4);
        Expect.throwing("codeOf(40)", INDEX, () -> full.codeOf(40));
        Ironwood bare = new Ironwood();
        bare.branch(IF, 1);
        bare.finish(-1);
        Expect.same("statements() without variables", bare.statements(), 2);
        Expect.throwing("read() without variables", INDEX, () -> bare.read(0, WHOLE));
        Expect.throwing("canBe() without variables", INDEX, () -> bare.canBe(0, 0, WHOLE));
    }

    private static void isReached() {
        Ironwood x = new Ironwood();
        x.branch(GO, 3);
        x.finish(-1);
        x.finish(-1);
        x.branch(IF, 1);
        x.branch(GO, 40);
        x.branch(IF, 5);
        int[] due = {1, 1, 0, 1, 1, 0};
        for (int statement = 0; statement < due.length; statement++) {
            Expect.same("isReached(" + statement + ")", x.isReached(statement) ? 1 : 0, due[statement]);
        }
        Expect.throwing("isReached(-1)", INDEX, () -> x.isReached(-1));
        Expect.throwing("isReached(6)", INDEX, () -> x.isReached(6));
    }

    private static void canBe() {
        Ironwood x = new Ironwood();
        x.variable(OWNED, false);
        x.variable(PLAIN, true);
        x.variable(OWNED, true);
        x.branch(IF, 4);
        x.write(0, WHOLE);
        x.branch(IF, 4);
        x.move(2, 0, 2);
        x.read(0, WHOLE);
        x.branch(IF, 0);
        Expect.same("canBe() of the first, round and round", x.canBe(0, 0, WHOLE), 7);
        Expect.same("canBe() of a field never moved", x.canBe(0, 0, 1), 3);
        Expect.same("canBe() of a field moved or not", x.canBe(4, 0, 2), 7);
        Expect.same("canBe() ahead of the move", x.canBe(3, 0, 2), 2);
        Expect.same("canBe() of a plain one", x.canBe(5, 1, WHOLE), 2);
        Expect.throwing("canBe(6, 9, 9)", INDEX, () -> x.canBe(6, 9, 9));
        Expect.throwing("canBe(-1, 0, -1)", INDEX, () -> x.canBe(-1, 0, WHOLE));
        Expect.throwing("canBe(0, 3, 9)", INDEX, () -> x.canBe(0, 3, 9));
        Expect.throwing("canBe(0, -1, -1)", INDEX, () -> x.canBe(0, -1, WHOLE));
        Expect.throwing("canBe(0, 1, 0)", ARGUMENT, () -> x.canBe(0, 1, 0));
        Expect.throwing("canBe(0, 0, 3)", ARGUMENT, () -> x.canBe(0, 0, BEHIND));
        Expect.throwing("canBe(0, 0, -2)", ARGUMENT, () -> x.canBe(0, 0, -2));
        Ironwood y = ofEachKind();
        y.finish(-1);
        y.read(3, BEHIND);
        Expect.throwing("canBe() behind a loan", ARGUMENT, () -> y.canBe(0, 3, BEHIND));
        Expect.throwing("canBe() of no place, where one cannot come", ARGUMENT, () -> y.canBe(1, 2, 0));
        Expect.same("canBe() where one cannot come", y.canBe(1, 3, WHOLE), 0);
    }

    private static void holds() {
        Ironwood x = ofEachKind();
        x.lend(2, 0, WHOLE);
        x.branch(IF, 3);
        x.lend(2, 1, 0);
        x.move(6, 2, WHOLE);
        x.drop(2);
        x.lend(3, 4, WHOLE);
        x.move(7, 3, WHOLE);
        x.branch(IF, 0);
        x.finish(-1);
        x.lend(3, 4, WHOLE);
        x.read(3, BEHIND);
        Expect.same("holds() ahead of the first, round and round", x.holds(0, 2), 2);
        Expect.same("holds() of one way", x.holds(2, 2), 1);
        Expect.same("holds() of both ways", x.holds(3, 2), 2);
        Expect.same("holds() of a copy", x.holds(4, 6), 2);
        Expect.same("holds() behind a drop", x.holds(5, 2), 2);
        Expect.same("holds() behind a move", x.holds(8, 3), 1);
        Expect.same("holds() of where it is moved", x.holds(8, 7), 1);
        Expect.same("holds() of a plain one", x.holds(8, 0), 0);
        Expect.same("holds() where one cannot come", x.holds(10, 3), 0);
        Expect.yes("canHold(3, 2, 0)", x.canHold(3, 2, 0));
        Expect.yes("canHold(3, 2, 2)", x.canHold(3, 2, 2));
        Expect.no("canHold(2, 2, 2)", x.canHold(2, 2, 2));
        Expect.no("canHold() of no loan", x.canHold(3, 2, 1));
        Expect.no("canHold() of a number below all", x.canHold(3, 2, -1));
        Expect.no("canHold() of a number above all", x.canHold(3, 2, 64));
        Expect.no("canHold() of the smallest number", x.canHold(3, 2, Integer.MIN_VALUE));
        Expect.no("canHold() where one cannot come", x.canHold(10, 3, 9));
        Expect.throwing("holds(11, 0)", INDEX, () -> x.holds(11, 0));
        Expect.throwing("holds(-1, 0)", INDEX, () -> x.holds(-1, 0));
        Expect.throwing("holds(0, 8)", INDEX, () -> x.holds(0, 8));
        Expect.throwing("holds(0, -1)", INDEX, () -> x.holds(0, -1));
        Expect.throwing("canHold(11, 0, 0)", INDEX, () -> x.canHold(11, 0, 0));
        Expect.throwing("canHold(-1, 0, 0)", INDEX, () -> x.canHold(-1, 0, 0));
        Expect.throwing("canHold(0, 8, 0)", INDEX, () -> x.canHold(0, 8, 0));
        Expect.throwing("canHold(0, -1, 0)", INDEX, () -> x.canHold(0, -1, 0));
        Ironwood y = ofEachKind();
        y.lend(3, 0, WHOLE);
        y.call(3, -1, -1, 3);
        y.move(5, 1, 0);
        y.lend(2, 0, WHOLE);
        y.write(0, WHOLE);
        y.finish(-1);
        Expect.same("holds() behind a call of none", y.holds(2, 3), 0);
        Expect.same("holds() behind a write of what is lent", y.holds(5, 2), 1);
    }

    private static void awaited() {
        Ironwood x = ofEachKind();
        x.write(0, WHOLE);
        x.branch(IF, 5);
        x.read(1, 0);
        x.lend(3, 5, WHOLE);
        x.write(3, BEHIND);
        x.call(4, 0, -1, 0);
        x.branch(IF, 1);
        x.drop(4);
        x.relend(6, 2);
        x.move(1, 5, 1);
        x.finish(7);
        int rest = (1 << 2) + (1 << 5) + (1 << 7);
        Expect.same("awaited(10)", x.awaited(10), 1 << 7);
        Expect.same("awaited(9)", x.awaited(9), (1 << 5) + (1 << 7));
        Expect.same("awaited(8)", x.awaited(8), rest);
        Expect.same("awaited(7)", x.awaited(7), rest);
        Expect.same("awaited(6), round and round", x.awaited(6), rest + 1 + 2);
        Expect.same("awaited(5)", x.awaited(5), rest + 1 + 2);
        Expect.same("awaited(4)", x.awaited(4), rest + 1 + 2 + 8);
        Expect.same("awaited(3)", x.awaited(3), rest + 1 + 2);
        Expect.same("awaited(2)", x.awaited(2), rest + 1 + 2);
        Expect.same("awaited(0)", x.awaited(0), rest + 2);
        Expect.throwing("awaited(-1)", INDEX, () -> x.awaited(-1));
        Expect.throwing("awaited(11)", INDEX, () -> x.awaited(11));
        Ironwood y = ofEachKind();
        y.branch(GO, 0);
        y.read(0, WHOLE);
        Expect.same("awaited() going round without a use", y.awaited(0), 0);
        Ironwood z = ofEachKind();
        z.call(5, 5, -1, 0);
        Expect.same("awaited() of what is used and set", z.awaited(0), 1 << 5);
    }

    private static void loansAndRegions() {
        Ironwood x = ofEachKind();
        x.lend(2, 0, WHOLE);
        x.lend(3, 1, WHOLE);
        x.relend(6, 3);
        x.read(6, BEHIND);
        x.read(2, WHOLE);
        x.finish(-1);
        x.lend(3, 0, WHOLE);
        x.read(3, BEHIND);
        Expect.same("loans()", x.loans(), 3);
        Expect.same("region(0)", x.region(0), 4);
        Expect.same("region(1)", x.region(1), 2);
        Expect.same("region(2)", x.region(2), 1);
        Expect.same("region() of no loan", x.region(3), -1);
        Expect.same("region() of a loan to which one cannot come", x.region(6), -1);
        Expect.same("region(-1)", x.region(-1), -1);
        Expect.same("region(8)", x.region(8), -1);
        Expect.same("region(40)", x.region(40), -1);
        Expect.same("region(64)", x.region(64), -1);
        Expect.same("region() of the smallest number", x.region(Integer.MIN_VALUE), -1);
        Expect.no("isLive(0, 0)", x.isLive(0, 0));
        Expect.yes("isLive(0, 1)", x.isLive(0, 1));
        Expect.yes("isLive(0, 4)", x.isLive(0, 4));
        Expect.no("isLive(0, 5)", x.isLive(0, 5));
        Expect.yes("isLive(1, 3)", x.isLive(1, 3));
        Expect.no("isLive(1, 4)", x.isLive(1, 4));
        Expect.no("isLive(6, 7)", x.isLive(6, 7));
        Expect.no("isLive() of no loan", x.isLive(3, 4));
        Expect.no("isLive(-1, 4)", x.isLive(-1, 4));
        Expect.no("isLive(64, 4)", x.isLive(64, 4));
        Expect.throwing("isLive(0, 8)", INDEX, () -> x.isLive(0, 8));
        Expect.throwing("isLive(0, -1)", INDEX, () -> x.isLive(0, -1));
        Ironwood y = ofEachKind();
        y.lend(2, 0, WHOLE);
        y.lend(2, 4, WHOLE);
        y.read(2, BEHIND);
        Expect.same("region() of a loan set over", y.region(0), 0);
        Expect.same("region() of the one behind it", y.region(1), 1);
        Ironwood z = ofEachKind();
        z.read(2, BEHIND);
        z.lend(2, 0, WHOLE);
        z.branch(GO, 0);
        Expect.same("region() round and round", z.region(1), 2);
        Expect.no("isLive() where it is made", z.isLive(1, 1));
        Ironwood last = ofEachKind();
        while (last.statements() < 39) {
            last.read(0, WHOLE);
        }
        last.lend(2, 0, WHOLE);
        Expect.same("region() of the last loan", last.region(39), 0);
        last.undo();
        last.branch(IF, 0);
        Expect.same("loans() without the last", last.loans(), 0);
    }

    private static void faultsOfCells() {
        Ironwood x = new Ironwood();
        x.variable(OWNED, false);
        x.variable(OWNED, true);
        x.variable(ALONE, false);
        x.write(0, 0);
        x.read(0, 0);
        x.read(0, 1);
        x.move(1, 0, WHOLE);
        x.read(0, 0);
        x.write(0, 2);
        x.write(2, BEHIND);
        x.call(0, 2, 1, 0);
        x.read(2, BEHIND);
        Expect.same("faults()", x.faults(), 6);
        fault(x, 0, 2, 1, 0, 1, -1, -1, -1);
        fault(x, 1, 3, 1, 0, WHOLE, -1, -1, -1);
        fault(x, 2, 4, 2, 0, 0, 3, -1, -1);
        fault(x, 3, 6, 1, 2, BEHIND, -1, -1, -1);
        fault(x, 4, 7, 1, 2, WHOLE, -1, -1, -1);
        fault(x, 5, 8, 2, 2, BEHIND, 7, -1, -1);
        Expect.same("faultsAt(5)", x.faultsAt(5), 0);
        Expect.same("faultsOf(1)", x.faultsOf(1), 4);
        Expect.same("faultsOf(2)", x.faultsOf(2), 2);
        Expect.same("faultsOf(3)", x.faultsOf(3), 0);
        Expect.throwing("ofFault(6, 7)", INDEX, () -> x.ofFault(6, 7));
        Expect.throwing("ofFault(-1, 0)", INDEX, () -> x.ofFault(-1, 0));
        Expect.throwing("ofFault(0, 7)", ARGUMENT, () -> x.ofFault(0, 7));
        Expect.throwing("ofFault(0, -1)", ARGUMENT, () -> x.ofFault(0, -1));
        Expect.throwing("faultsAt(9)", INDEX, () -> x.faultsAt(9));
        Expect.throwing("faultsAt(-1)", INDEX, () -> x.faultsAt(-1));
        Expect.throwing("faultsOf(0)", ARGUMENT, () -> x.faultsOf(0));
        Expect.throwing("faultsOf(7)", ARGUMENT, () -> x.faultsOf(7));
    }

    private static void faultsOfLoans() {
        Ironwood x = ofEachKind();
        x.lend(2, 1, 1);
        x.drop(1);
        x.write(1, WHOLE);
        x.write(1, 1);
        x.write(1, 0);
        x.read(1, WHOLE);
        x.move(5, 1, 1);
        x.move(5, 1, 0);
        x.read(2, BEHIND);
        x.drop(1);
        Expect.same("faults() against a shared loan", x.faults(), 4);
        fault(x, 0, 1, 3, 1, WHOLE, 0, 2, 8);
        fault(x, 1, 2, 4, 1, WHOLE, 0, 2, 8);
        fault(x, 2, 3, 4, 1, 1, 0, 2, 8);
        fault(x, 3, 6, 3, 1, 1, 0, 2, 8);

        Ironwood y = ofEachKind();
        y.lend(3, 0, WHOLE);
        y.read(0, WHOLE);
        y.relend(7, 3);
        y.write(3, BEHIND);
        y.read(3, WHOLE);
        y.drop(3);
        y.call(3, -1, -1, 0);
        y.write(7, BEHIND);
        Expect.same("faults() against loans alone", y.faults(), 2);
        fault(y, 0, 1, 5, 0, WHOLE, 0, 3, 2);
        fault(y, 1, 3, 4, 3, BEHIND, 2, 7, 7);

        Ironwood z = ofEachKind();
        z.relend(2, 3);
        z.move(7, 3, WHOLE);
        z.read(2, BEHIND);
        z.lend(3, 1, WHOLE);
        z.lend(7, 1, 0);
        z.lend(2, 1, 2);
        z.write(3, BEHIND);
        z.lend(2, 5, 0);
        z.move(5, 1, WHOLE);
        z.read(2, WHOLE);
        Expect.same("faults() of moves, lends and sets", z.faults(), 4);
        fault(z, 0, 1, 3, 3, WHOLE, 0, 2, 2);
        fault(z, 1, 4, 4, 1, 0, 3, 3, 6);
        fault(z, 2, 5, 5, 1, 2, 3, 3, 6);
        fault(z, 3, 8, 4, 5, WHOLE, 7, 2, 9);
    }

    private static void faultsOfEnds() {
        for (int kind = SHARED; kind <= ALONE; kind++) {
            Ironwood x = ofEachKind();
            x.lend(kind, 0, WHOLE);
            x.finish(kind);
            Expect.same("faults() of an end", x.faults(), 1);
            fault(x, 0, 1, 6, kind, WHOLE, 0, -1, -1);
            Expect.same("faultsOf(6)", x.faultsOf(6), 1);
            Expect.same("faultsAt(1)", x.faultsAt(1), 1);
            Expect.same("copied() of an end", x.copied(1), 1);
        }
        Ironwood y = ofEachKind();
        y.relend(2, 3);
        y.finish(2);
        Expect.same("faults() of an end with what is behind", y.faults(), 0);
        Ironwood z = ofEachKind();
        z.lend(3, 1, 0);
        z.relend(2, 3);
        z.finish(2);
        Expect.same("faults() of an end with both", z.faults(), 1);
        fault(z, 0, 2, 6, 2, WHOLE, 0, -1, -1);
        Ironwood owned = ofEachKind();
        owned.branch(IF, 2);
        owned.move(5, 1, WHOLE);
        owned.finish(1);
        Expect.same("faults() of an end of what can be gone", owned.faults(), 1);
        fault(owned, 0, 2, 2, 1, WHOLE, 1, -1, -1);
        Ironwood none = ofEachKind();
        none.lend(3, 0, WHOLE);
        none.finish(-1);
        Expect.same("faults() of an end of none", none.faults(), 0);
    }

    private static void faultOrder() {
        Ironwood x = new Ironwood();
        x.variable(OWNED, false);
        x.variable(OWNED, false);
        x.variable(SHARED, false);
        x.variable(SHARED, false);
        x.lend(2, 0, WHOLE);
        x.lend(3, 1, WHOLE);
        x.branch(IF, 4);
        x.call(0, 0, 1, 3);
        x.call(0, 1, 0, 0);
        x.read(2, WHOLE);
        x.call(2, 2, 3, 0);
        int[][] due = {
            {0, 1, 0}, {1, 1, 1}, {3, 1, 0}, {3, 3, 0}, {3, 1, 1}, {3, 3, 1}, {3, 4, 0},
            {4, 1, 1}, {4, 2, 1}, {4, 3, 1}, {4, 1, 0}, {4, 3, 0}, {4, 4, 0},
        };
        Expect.same("faults()", x.faults(), due.length);
        for (int k = 0; k < due.length; k++) {
            fault(x, k, due[k]);
        }
        Expect.same("faultsAt(3)", x.faultsAt(3), 5);
        Expect.same("faultsAt(4)", x.faultsAt(4), 6);

        Ironwood y = new Ironwood();
        y.variable(ALONE, true);
        y.variable(ALONE, true);
        y.variable(PLAIN, false);
        y.relend(1, 0);
        y.relend(0, 1);
        y.branch(IF, 4);
        y.drop(0);
        y.branch(IF, 6);
        y.lend(0, 2, WHOLE);
        y.finish(0);
        Expect.same("faultsAt() of an end", y.faultsAt(6), 3);
        int first = y.faults() - 3;
        fault(y, first, 6, 1, 0, WHOLE, -1, -1, -1);
        fault(y, first + 1, 6, 3, 0, WHOLE, 0, 0, 6);
        fault(y, first + 2, 6, 6, 0, WHOLE, 5, -1, -1);
    }

    private static void reasons() {
        Ironwood x = ofEachKind();
        x.branch(IF, 3);
        x.move(5, 1, 1);
        x.branch(GO, 4);
        x.move(5, 1, 0);
        x.read(1, WHOLE);
        x.read(1, 0);
        x.move(5, 1, WHOLE);
        x.read(1, 1);
        x.branch(IF, 0);
        Expect.same("ofFault() by the smallest of both ways, round and round", reasonAt(x, 4), 1);
        Expect.same("ofFault() of the field alone", reasonAt(x, 5), 3);
        Expect.same("ofFault() of the last move", reasonAt(x, 7), 6);
        Expect.same("ofFault() of the move itself, from the round before", reasonAt(x, 1), 6);
        Ironwood loop = ofEachKind();
        loop.move(5, 1, WHOLE);
        loop.branch(GO, 0);
        fault(loop, 0, 0, 2, 1, WHOLE, 0, -1, -1);
        Expect.same("faults() of a move round and round", loop.faults(), 1);
        Ironwood y = ofEachKind();
        y.lend(3, 1, 0);
        y.lend(2, 1, 1);
        y.lend(7, 1, 2);
        y.read(1, WHOLE);
        y.drop(1);
        y.read(2, WHOLE);
        y.read(3, WHOLE);
        y.read(7, WHOLE);
        fault(y, 0, 3, 5, 1, WHOLE, 0, 3, 6);
        fault(y, 1, 4, 3, 1, WHOLE, 0, 3, 6);
        y.setTarget(y.branch(IF, 0), 40);
        y.undo();
        y.undo();
        y.undo();
        y.read(7, WHOLE);
        fault(y, 0, 3, 5, 1, WHOLE, 2, 7, 6);
        fault(y, 1, 4, 3, 1, WHOLE, 1, 2, 5);
    }

    private static int reasonAt(Ironwood x, int statement) {
        for (int fault = 0; fault < x.faults(); fault++) {
            if (x.ofFault(fault, 0) == statement && x.ofFault(fault, 1) == 2) {
                return x.ofFault(fault, 4);
            }
        }
        return -1;
    }

    private static void holdersAndNexts() {
        Ironwood x = ofEachKind();
        x.lend(6, 0, WHOLE);
        x.move(2, 6, WHOLE);
        x.write(0, WHOLE);
        x.branch(IF, 5);
        x.lend(2, 4, WHOLE);
        x.read(2, BEHIND);
        x.read(6, BEHIND);
        fault(x, 0, 2, 4, 0, WHOLE, 0, 2, 5);
        x.setTarget(3, 6);
        fault(x, 0, 2, 4, 0, WHOLE, 0, 6, 6);
        Expect.same("faults()", x.faults(), 1);

        Ironwood y = ofEachKind();
        y.branch(GO, 3);
        y.read(2, BEHIND);
        y.branch(GO, 40);
        y.lend(2, 0, WHOLE);
        y.branch(IF, 6);
        y.read(2, BEHIND);
        y.write(0, WHOLE);
        y.branch(IF, 1);
        y.read(2, BEHIND);
        fault(y, 0, 6, 4, 0, WHOLE, 3, 2, 1);

        Ironwood first = ofEachKind();
        first.read(2, BEHIND);
        first.lend(2, 0, WHOLE);
        first.write(0, WHOLE);
        first.branch(GO, 0);
        fault(first, 0, 2, 4, 0, WHOLE, 1, 2, 0);

        Ironwood self = ofEachKind();
        self.lend(3, 1, WHOLE);
        self.call(1, 3, -1, 0);
        self.read(3, BEHIND);
        fault(self, 0, 1, 4, 1, WHOLE, 0, 3, 1);
        fault(self, 1, 2, 2, 3, BEHIND, 1, -1, -1);
        Expect.same("faults() of a call that uses the holder", self.faults(), 2);

        Ironwood both = ofEachKind();
        both.lend(2, 1, WHOLE);
        both.call(2, 2, 1, 0);
        both.read(2, BEHIND);
        fault(both, 0, 1, 3, 1, WHOLE, 0, 2, 1);
        Expect.same("faults() of a call that uses and sets the holder", both.faults(), 1);
    }

    private static void without() {
        Ironwood x = ofEachKind();
        x.lend(2, 1, WHOLE);
        x.branch(IF, 3);
        x.drop(1);
        x.finish(-1);
        x.read(1, WHOLE);
        x.read(2, BEHIND);
        x.branch(GO, 2);
        long before = x.digest();
        Expect.same("faults()", x.faults(), 0);
        Expect.same("without() of a lend", x.without(0), 0);
        Expect.same("without() of an end", x.without(3), 2);
        Expect.same("without() of an if", x.without(1), 0);
        Expect.same("without() where one cannot come", x.without(4), 0);
        Expect.same("digest() behind without()", x.digest(), before);
        Expect.throwing("without(-1)", INDEX, () -> x.without(-1));
        Expect.throwing("without(7)", INDEX, () -> x.without(7));
        Ironwood y = ofEachKind();
        y.branch(GO, 2);
        y.drop(1);
        y.read(1, 0);
        Expect.same("without() of a go", y.without(0), 1);
        y.lend(3, 1, 1);
        y.write(1, 1);
        y.write(3, BEHIND);
        Expect.same("faults() with a loan", y.faults(), 1);
        Expect.same("without() of the loan's use", y.without(5), 0);
        Expect.same("without() of the loan", y.without(3), 0);
        Expect.same("without() of the write", y.without(4), 0);
        Expect.same("without() of the read", y.without(2), 1);
    }

    private static void copied() {
        Ironwood x = ofEachKind();
        x.move(5, 1, WHOLE);
        x.read(1, WHOLE);
        x.lend(3, 5, WHOLE);
        x.move(7, 3, WHOLE);
        x.move(1, 5, 0);
        x.read(3, WHOLE);
        x.write(7, BEHIND);
        x.call(0, 7, 5, 0);
        x.read(7, WHOLE);
        x.read(5, WHOLE);
        long before = x.digest();
        Expect.same("faults()", x.faults(), 7);
        Expect.same("copied() of a move", x.copied(0), 6);
        Expect.same("copied() of a move of a loan", x.copied(3), 6);
        Expect.same("copied() of a move against a loan", x.copied(4), 6);
        Expect.same("copied() of a call", x.copied(7), 6);
        Expect.same("copied() of a read", x.copied(8), 7);
        Expect.same("digest() behind copied()", x.digest(), before);
        Expect.throwing("copied(-1)", INDEX, () -> x.copied(-1));
        Expect.throwing("copied(10)", INDEX, () -> x.copied(10));
        Ironwood y = ofEachKind();
        y.relend(7, 3);
        y.move(3, 7, WHOLE);
        y.relend(2, 3);
        y.branch(IF, 5);
        y.finish(3);
        y.read(2, BEHIND);
        Expect.same("faults() of what holds what is behind itself", y.faults(), 2);
        fault(y, 0, 2, 5, 3, BEHIND, 0, 3, 2);
        fault(y, 1, 4, 3, 3, WHOLE, 0, 3, 4);
        Expect.same("copied() of its end", y.copied(4), 1);
        Expect.same("copied() of its move", y.copied(1), 2);
        Ironwood z = ofEachKind();
        z.relend(7, 3);
        z.relend(3, 7);
        z.finish(3);
        Expect.same("faults() of an end of what is lent in a ring", z.faults(), 1);
        fault(z, 0, 2, 3, 3, WHOLE, 0, 3, 2);
        Expect.same("copied() of such an end", z.copied(2), 0);
    }

    private static void culprit() {
        Ironwood x = ofEachKind();
        x.read(1, 0);
        x.drop(1);
        x.read(1, 0);
        x.read(1, 1);
        x.drop(5);
        x.read(5, 1);
        Expect.same("faults()", x.faults(), 3);
        Expect.same("culprit()", x.culprit(), 1);
        x.read(5, WHOLE);
        Expect.same("culprit() of several", x.culprit(), 1);
        x.read(5, WHOLE);
        Expect.same("culprit() of the fewest", x.culprit(), 4);
        Ironwood none = ofEachKind();
        none.read(1, 0);
        Expect.same("culprit() of no fault", none.culprit(), -1);
        Ironwood more = new Ironwood();
        more.variable(PLAIN, false);
        more.branch(GO, 0);
        more.read(0, WHOLE);
        Expect.same("culprit() where there would be more", more.culprit(), -1);
        Ironwood last = ofEachKind();
        for (int k = 0; k < 38; k++) {
            last.read(0, WHOLE);
        }
        last.drop(1);
        last.read(1, WHOLE);
        Expect.same("culprit() of 40", last.culprit(), 38);
    }

    private static void density() {
        Ironwood x = new Ironwood();
        Expect.same("density() without any", x.density(), 0.0);
        x.variable(PLAIN, false);
        x.branch(IF, 1);
        Expect.same("density() of no fault", x.density(), 0.0);
        x.read(0, WHOLE);
        Expect.same("density() of a half", x.density(), 0.5);
        x.write(0, WHOLE);
        Expect.same("density() of a third", x.density(), 1.0 / 3.0);
        x.finish(-1);
        x.read(0, WHOLE);
        Expect.same("density() of those to which one can come", x.density(), 0.25);
        x.setTarget(0, 4);
        Expect.same("density() of two ways", x.density(), 0.4);
    }

    private static void digest() {
        Ironwood x = new Ironwood();
        Expect.same("digest() of a new one", x.digest(), sum(0, 0, 0, 0, 0, 0, 0, 0, 0, 0));
        x.variable(PLAIN, false);
        Expect.same("digest() of a variable", x.digest(), sum(1, 0, 0, 0, 0, 0, 0, 0, 0, 0));
        x.read(0, WHOLE);
        Expect.same("digest() of a fault", x.digest(), sum(1, 1, 0, 1, 4, 1, 1, -1, 1, 0,
                0, 1, 0, -1, -1, -1, -1, 1, 0, 0, 0, 0, 0));
        x.undo();
        x.variable(ALONE, false);
        x.lend(1, 0, WHOLE);
        x.read(0, WHOLE);
        x.write(1, BEHIND);
        Expect.same("digest() of a loan", x.digest(), sum(2, 3, 1, 3,
                2, 1, 1, 2, 1, 0, 1, 0,
                4, 1, 3, -1, 1, 0, 2, 1,
                0, 1, 2, -1, 1, 0, 2, 1,
                0, 1, 0, -1, -1, -1, -1,
                1, 1, 0, -1, -1, -1, -1,
                1, 5, 0, -1, 0, 1, 2,
                2, 0, 0, 0, 1, 0));
    }

    private static long sum(int... numbers) {
        long sum = 58057;
        for (int number : numbers) {
            sum = sum * 31 + number;
        }
        return sum;
    }

    /** The most that can be told: 12 variables, 40 STATEMENTS, each with as many FAULTS as can be. */
    private static void manyCalls() {
        Ironwood x = new Ironwood();
        for (int v = 0; v < 12; v++) {
            x.variable(v < 3 ? OWNED : SHARED, false);
        }
        x.lend(3, 0, WHOLE);
        x.lend(4, 1, WHOLE);
        x.lend(5, 2, WHOLE);
        while (x.statements() < 37) {
            x.call(2, 0, 1, 3);
        }
        x.call(11, 3, 4, 3);
        x.read(5, BEHIND);
        x.branch(IF, 0);
        int faults = x.faults();
        Expect.same("faultsAt() of all codes", x.faultsAt(3), 7);
        int sum = 0;
        for (int statement = 0; statement < 40; statement++) {
            sum += x.faultsAt(statement);
        }
        Expect.same("faultsAt() of all", sum, faults);
        sum = 0;
        for (int code = 1; code <= 6; code++) {
            sum += x.faultsOf(code);
        }
        Expect.same("faultsOf() of all", sum, faults);
        fault(x, faults - 1, 36, 4, 2, WHOLE, 2, 5, 38);
        for (int k = 0; k < 100; k++) {
            Expect.same("culprit() of many", x.culprit(), x.culprit());
        }
    }
}
