/** Each sentence on VARIABLES and STATEMENTS that names an edge: nothing, one, all, itself, and the end of all. */
public final class EdgesTest extends Samples {
    private EdgesTest() {
    }

    public static void main(String[] args) {
        variables();
        places();
        statements();
        movesAndLends();
        callsAndEnds();
        uses();
        ways();
        farWays();
        theEndOfAll();
        whatIsNotReached();
        Expect.end("EdgesTest");
    }

    /** The one FAULT that is noted at the STATEMENT, as its code; 0 without one, -1 if there are more. */
    private static int codeAt(Ironwood x, int statement) {
        int found = 0;
        for (int fault = 0; fault < x.faults(); fault++) {
            if (x.ofFault(fault, 0) == statement) {
                found = found == 0 ? x.ofFault(fault, 1) : -1;
            }
        }
        return found;
    }

    // ---- 1 VARIABLES

    private static void variables() {
        Expect.holds("At most 12, numbered from 0", () -> {
            Ironwood x = ofKinds(12, true);
            Expect.same("variables()", x.variables(), 12);
            x.finish(11);
            Expect.same("awaited() of the last one", x.awaited(0), 1 << 11);
            Ironwood y = ofKinds(12, true);
            y.finish(0);
            Expect.same("awaited() of the first one", y.awaited(0), 1);
        });
        Expect.holds("An OWNED one has three CELLS, each of 12", () -> {
            Ironwood x = new Ironwood();
            for (int v = 0; v < 12; v++) {
                x.variable(OWNED, true);
            }
            for (int v = 0; v < 12; v++) {
                x.move(v == 11 ? 0 : 11, v, v % 3);
                x.drop(v == 11 ? 0 : 11);
            }
            x.finish(NONE);
            for (int v = 1; v < 11; v++) {
                canBe(x, 24, v, MADE + GONE, v % 3 == 0 ? GONE : MADE, v % 3 == 1 ? GONE : MADE,
                        v % 3 == 2 ? GONE : MADE);
            }
            canBe(x, 24, 0, UNMADE, UNMADE, UNMADE, UNMADE);
            canBe(x, 24, 11, UNMADE + GONE, UNMADE, UNMADE, GONE);
        });
        Expect.holds("An OWNED one is made when the last of its three CELLS is", () -> {
            Ironwood x = new Ironwood();
            x.variable(OWNED, false);
            x.write(0, 2);
            x.write(0, 0);
            x.write(0, 1);
            x.finish(NONE);
            canBe(x, 0, 0, UNMADE, UNMADE, UNMADE, UNMADE);
            canBe(x, 1, 0, UNMADE + MADE, UNMADE, UNMADE, MADE);
            canBe(x, 2, 0, UNMADE + MADE, MADE, UNMADE, MADE);
            canBe(x, 3, 0, MADE, MADE, MADE, MADE);
        });
        Expect.holds("Some are PARAMETERS: none of them, or all", () -> {
            for (int v = 0; v < 12; v++) {
                Ironwood none = ofKinds(12, false);
                none.finish(NONE);
                canBe(none, 0, v, UNMADE);
                Ironwood all = ofKinds(12, true);
                all.finish(NONE);
                canBe(all, 0, v, MADE);
                Expect.same("holds() of a PARAMETER", all.holds(0, v), 0);
            }
        });
        Expect.holds("A variable that is told behind the STATEMENTS is there from the first one on", () -> {
            Ironwood x = new Ironwood();
            x.branch(IF, 0);
            x.finish(NONE);
            Expect.same("variable()", x.variable(OWNED, false), 0);
            Expect.same("variable()", x.variable(ALONE, true), 1);
            canBe(x, 0, 0, UNMADE);
            canBe(x, 1, 1, MADE);
        });
    }

    /** What a PLACE MEETS is told by the code of the FAULT that an ACCESS of it has against a LOAN of the other. */
    private static void places() {
        Expect.holds("Two PLACES MEET, if they are the same, or one is the WHOLE and the other one a FIELD", () -> {
            for (int lent = -1; lent <= 2; lent++) {
                for (int place = -1; place <= 2; place++) {
                    boolean meets = lent == place || lent == WHOLE || place == WHOLE;
                    String call = "a LOAN of " + lent + " and " + place;
                    Expect.same("WRITE: " + call, ownedAgainst(lent, 1, place, 'W'), meets ? 4 : 0);
                    Expect.same("READ: " + call, ownedAgainst(lent, 1, place, 'R'), meets ? 5 : 0);
                    Expect.same("MOVE: " + call, ownedAgainst(lent, 1, place, 'M'), meets ? 3 : 0);
                    Expect.same("LEND to one ALONE: " + call, ownedAgainst(lent, 1, place, 'A'), meets ? 4 : 0);
                    Expect.same("LEND to a SHARED one: " + call, ownedAgainst(lent, 1, place, 'S'), meets ? 5 : 0);
                }
                Expect.same("DROP: a LOAN of " + lent, ownedAgainst(lent, 1, WHOLE, 'D'), 3);
                Expect.same("CALL: a LOAN of " + lent, ownedAgainst(lent, 1, WHOLE, 'C'), 3);
            }
        });
        Expect.holds("Two PLACES MEET, if they are of the same variable", () -> {
            for (int lent = -1; lent <= 2; lent++) {
                for (int place = -1; place <= 2; place++) {
                    for (char act : new char[] {'W', 'R', 'M', 'A', 'S', 'D', 'C'}) {
                        Expect.same(act + " of another variable", ownedAgainst(lent, 5, place, act), 0);
                    }
                }
            }
            Expect.same("WRITE of another PLAIN one", plainAgainst(4, 'W'), 0);
            Expect.same("DROP of another PLAIN one", plainAgainst(4, 'D'), 0);
        });
        Expect.holds("Two PLACES MEET, if they are the same, of a PLAIN one", () -> {
            Expect.same("WRITE", plainAgainst(0, 'W'), 4);
            Expect.same("READ", plainAgainst(0, 'R'), 5);
            Expect.same("MOVE, which is a READ", plainAgainst(0, 'M'), 5);
            Expect.same("DROP", plainAgainst(0, 'D'), 3);
        });
        Expect.holds("for a MOVE also, if it is of the WHOLE, and the other one BEHIND", () -> {
            Expect.same("MOVE", behindAgainst(3, 2, 'M'), 3);
            Expect.same("CALL", behindAgainst(3, 2, 'C'), 3);
            Expect.same("CALL, the other one", behindAgainst(3, 2, 'O'), 3);
            Expect.same("READ of the WHOLE", behindAgainst(3, 2, 'R'), 0);
            Expect.same("DROP", behindAgainst(3, 2, 'D'), 0);
            Expect.same("SET", behindAgainst(3, 2, 'S'), 0);
            Expect.same("MOVE of a SHARED one, which is a READ", behindAgainst(2, 6, 'M'), 0);
            Expect.same("CALL of a SHARED one, which is a READ", behindAgainst(2, 6, 'C'), 0);
            Expect.same("MOVE of another one", behindAgainst(3, 2, 'X'), 0);
        });
        Expect.holds("for a MOVE also: that of an END", () -> {
            Ironwood x = ofEachKind();
            x.relend(7, 3);
            x.relend(3, 7);
            x.finish(3);
            Expect.same("END, against the LOAN that it holds itself", codeAt(x, 2), 3);
        });
        Expect.holds("BEHIND and BEHIND are the same", () -> {
            Expect.same("READ BEHIND against one ALONE", behindAgainst(3, 7, 'B'), 5);
            Expect.same("READ BEHIND against a SHARED one", behindAgainst(3, 2, 'B'), 0);
            Expect.same("WRITE BEHIND against one ALONE", behindAgainst(3, 7, 'W'), 4);
            Expect.same("WRITE BEHIND against a SHARED one", behindAgainst(3, 2, 'W'), 4);
            Expect.same("READ BEHIND of a SHARED one", behindAgainst(2, 6, 'B'), 0);
        });
    }

    /** A LOAN ALONE of a PLACE of 1 is LIVE at the STATEMENT 1, which is such an ACCESS. */
    private static int ownedAgainst(int lent, int variable, int place, char act) {
        Ironwood x = ofEachKind();
        x.variable(OWNED, true);
        x.lend(3, 1, lent);
        switch (act) {
            case 'W' -> x.write(variable, place);
            case 'R' -> x.read(variable, place);
            case 'M' -> x.move(8, variable, place);
            case 'A' -> x.lend(7, variable, place);
            case 'S' -> x.lend(6, variable, place);
            case 'D' -> x.drop(variable);
            default -> x.call(4, variable, NONE, 0);
        }
        x.read(3, BEHIND);
        return codeAt(x, 1);
    }

    private static int plainAgainst(int variable, char act) {
        Ironwood x = ofEachKind();
        x.variable(PLAIN, true);
        x.lend(3, 0, WHOLE);
        switch (act) {
            case 'W' -> x.write(variable, WHOLE);
            case 'R' -> x.read(variable, WHOLE);
            case 'M' -> x.move(8, variable, WHOLE);
            default -> x.drop(variable);
        }
        x.read(3, BEHIND);
        return codeAt(x, 1);
    }

    /** A LOAN of what is BEHIND the first one, held by the other, is LIVE at the STATEMENT 1. */
    private static int behindAgainst(int of, int holder, char act) {
        Ironwood x = ofEachKind();
        x.variable(of, true);
        x.variable(ALONE, true);
        x.relend(holder, of);
        switch (act) {
            case 'M' -> x.move(8, of, WHOLE);
            case 'C' -> x.call(4, of, NONE, 0);
            case 'O' -> x.call(4, NONE, of, 0);
            case 'R' -> x.read(of, WHOLE);
            case 'B' -> x.read(of, BEHIND);
            case 'W' -> x.write(of, BEHIND);
            case 'D' -> x.drop(of);
            case 'S' -> x.call(of, NONE, NONE, 0);
            default -> x.move(8, 9, WHOLE);
        }
        x.read(holder, BEHIND);
        return codeAt(x, 1);
    }

    // ---- 2 STATEMENTS

    private static void statements() {
        Expect.holds("At most 40, numbered from 0, in a row", () -> {
            Ironwood x = new Ironwood();
            x.variable(OWNED, true);
            for (int number = 0; number < 40; number++) {
                Expect.same("the number of a STATEMENT", x.read(0, number % 3), number);
            }
            Expect.same("statements()", x.statements(), 40);
            Expect.yes("isReached() of the last one", x.isReached(39));
            canBe(x, 39, 0, MADE);
            Expect.same("awaited() at the last one", x.awaited(39), 1);
        });
        Expect.holds("That of a WHOLE variable SETS it, and is one ACCESS", () -> {
            Ironwood x = ofEachKind();
            x.lend(3, 1, WHOLE);
            x.write(1, WHOLE);
            x.read(3, BEHIND);
            Expect.same("faultsAt()", x.faultsAt(1), 1);
            Ironwood y = ofEachKind();
            y.write(1, WHOLE);
            y.read(1, 0);
            Expect.same("awaited() at what SETS it", y.awaited(0), 0);
            Ironwood z = ofEachKind();
            z.write(1, 0);
            z.read(1, 0);
            Expect.same("awaited() at a WRITE of a FIELD", z.awaited(0), 1 << 1);
        });
    }

    private static void movesAndLends() {
        Expect.holds("MOVE of a PLAIN one or a SHARED LOAN is a READ of it", () -> {
            int[] due = {MADE, GONE, MADE, GONE};
            for (int kind = 0; kind <= 3; kind++) {
                Ironwood x = ofEachKind();
                x.move(kind + 4, kind, WHOLE);
                x.finish(NONE);
                canBe(x, 1, kind, due[kind]);
                canBe(x, 1, kind + 4, MADE);
                Ironwood y = ofEachKind();
                y.call(0, kind == 0 ? 4 : kind, NONE, 0);
                y.finish(NONE);
                canBe(y, 1, kind == 0 ? 4 : kind, due[kind]);
                Ironwood z = ofEachKind();
                z.call(0, NONE, kind == 0 ? 4 : kind, 0);
                z.finish(NONE);
                canBe(z, 1, kind == 0 ? 4 : kind, due[kind]);
            }
        });
        Expect.holds("LEND is a WRITE that makes nothing, if v is not SHARED", () -> {
            Ironwood x = ofKinds(8, false);
            x.lend(3, 0, WHOLE);
            x.lend(7, 1, 2);
            x.relend(3, 7);
            x.finish(NONE);
            canBe(x, 3, 0, UNMADE);
            canBe(x, 3, 1, UNMADE, UNMADE, UNMADE, UNMADE);
            canBe(x, 3, 3, MADE);
            Ironwood y = ofKinds(8, false);
            y.relend(3, 7);
            y.finish(NONE);
            canBe(y, 1, 7, UNMADE);
        });
        Expect.holds("the LOAN has the number of the STATEMENT", () -> {
            Ironwood x = ofEachKind();
            x.read(0, WHOLE);
            x.lend(2, 0, WHOLE);
            x.relend(6, 2);
            x.read(6, BEHIND);
            for (int loan = -1; loan <= 4; loan++) {
                Expect.same("canHold(3, 6, " + loan + ")", x.canHold(3, 6, loan) ? 1 : 0,
                        loan == 1 || loan == 2 ? 1 : 0);
            }
        });
    }

    private static void callsAndEnds() {
        Expect.holds("CALL: of a, then of b (each if it is told)", () -> {
            Ironwood none = ofKinds(8, false);
            none.call(1, NONE, NONE, 3);
            none.finish(NONE);
            Expect.same("faults() of a CALL of none", none.faults(), 0);
            Expect.same("awaited() at a CALL of none", none.awaited(0), 0);
            canBe(none, 1, 1, MADE);
            Ironwood one = ofKinds(8, false);
            one.call(1, 4, NONE, 3);
            Expect.same("faults() of a CALL of one", one.faults(), 1);
            Expect.same("its variable", one.ofFault(0, 2), 4);
            Ironwood other = ofKinds(8, false);
            other.call(1, NONE, 5, 3);
            Expect.same("faults() of a CALL of the other", other.faults(), 1);
            Expect.same("its variable", other.ofFault(0, 2), 5);
            Ironwood both = ofKinds(8, false);
            both.call(1, 5, 4, 3);
            Expect.same("faults() of a CALL of both", both.faults(), 2);
            Expect.same("the first variable", both.ofFault(0, 2), 5);
            Expect.same("the second variable", both.ofFault(1, 2), 4);
        });
        Expect.holds("END: what MOVE has of the WHOLE v, if it is told", () -> {
            Ironwood none = ofKinds(8, false);
            none.finish(NONE);
            Expect.same("faults() of an END of none", none.faults(), 0);
            Expect.same("awaited() at an END of none", none.awaited(0), 0);
            for (int kind = 0; kind <= 3; kind++) {
                Ironwood x = ofKinds(8, false);
                x.finish(kind);
                Expect.same("faults() of an END of what is unmade", x.faults(), 1);
                Expect.same("its code", x.ofFault(0, 1), 1);
                Expect.same("its PLACE", x.ofFault(0, 3), WHOLE);
                Expect.same("awaited() at it", x.awaited(0), 1 << kind);
            }
        });
        Expect.holds("IF t and GO t: nothing", () -> {
            Ironwood x = ofKinds(8, false);
            x.branch(IF, 1);
            x.branch(GO, 2);
            x.finish(NONE);
            Expect.same("faults()", x.faults(), 0);
            Expect.same("awaited() at an IF", x.awaited(0), 0);
            Expect.same("awaited() at a GO", x.awaited(1), 0);
            for (int v = 0; v < 8; v++) {
                canBe(x, 2, v, UNMADE);
            }
        });
    }

    private static void usesOnly(String call, int due, Telling told) {
        Ironwood x = ofEachKind();
        told.tell(x);
        x.finish(NONE);
        Expect.same("awaited() at " + call, x.awaited(0), due);
    }

    private static void uses() {
        Expect.holds("A STATEMENT USES the variables of the PLACES of its ACCESSES", () -> {
            for (int v = 0; v < 8; v++) {
                int of = v;
                usesOnly("a READ of " + v, 1 << v, x -> x.read(of, WHOLE));
                usesOnly("a CALL of " + v, 1 << v, x -> x.call((of + 1) % 8, of, NONE, 0));
                usesOnly("a CALL with " + v, 1 << v, x -> x.call((of + 1) % 8, NONE, of, 0));
                usesOnly("a CALL of " + v + " to itself", 1 << v, x -> x.call(of, of, NONE, 0));
                usesOnly("a MOVE of " + v, 1 << v, x -> x.move((of + 4) % 8, of, WHOLE));
                usesOnly("an END of " + v, 1 << v, x -> x.finish(of));
            }
            for (int v = 0; v < 8; v++) {
                Ironwood x = ofEachKind();
                x.call(v, NONE, NONE, 0);
                x.finish(v);
                Expect.same("awaited() at what SETS " + v, x.awaited(0), 0);
                Expect.same("awaited() behind it", x.awaited(1), 1 << v);
            }
            usesOnly("a READ of a FIELD", 1 << 5, x -> x.read(5, 2));
            usesOnly("a MOVE of an own FIELD", 1 << 5, x -> x.move(5, 5, 2));
            usesOnly("a CALL of two", (1 << 5) + (1 << 7), x -> x.call(0, 5, 7, 0));
        });
        Expect.holds("of what is BEHIND w, w", () -> {
            usesOnly("a READ BEHIND a SHARED LOAN", 1 << 2, x -> x.read(2, BEHIND));
            usesOnly("a READ BEHIND a LOAN ALONE", 1 << 3, x -> x.read(3, BEHIND));
            usesOnly("a WRITE BEHIND", 1 << 7, x -> x.write(7, BEHIND));
            usesOnly("a RELEND to a SHARED LOAN", 1 << 3, x -> x.relend(2, 3));
            usesOnly("a RELEND to a LOAN ALONE", 1 << 3, x -> x.relend(7, 3));
        });
        Expect.holds("but for WRITES of a WHOLE or a FIELD, and DROPS", () -> {
            usesOnly("a WRITE of a PLAIN one", 0, x -> x.write(0, WHOLE));
            usesOnly("a WRITE of an OWNED one", 0, x -> x.write(1, WHOLE));
            for (int place = 0; place <= 2; place++) {
                int field = place;
                usesOnly("a WRITE of a FIELD", 0, x -> x.write(1, field));
            }
            for (int v = 0; v < 8; v++) {
                int of = v;
                usesOnly("a DROP", 0, x -> x.drop(of));
                usesOnly("what SETS", 0, x -> x.call(of, NONE, NONE, 0));
            }
        });
        Expect.holds("LEND USES the variable of p also where it is a WRITE", () -> {
            for (int to = 2; to <= 3; to++) {
                int v = to;
                usesOnly("a LEND of a PLAIN one", 1, x -> x.lend(v, 0, WHOLE));
                usesOnly("a LEND of an OWNED one", 1 << 1, x -> x.lend(v, 1, WHOLE));
                usesOnly("a LEND of a FIELD", 1 << 5, x -> x.lend(v, 5, 1));
            }
        });
    }

    private static void reached(Ironwood x, int... due) {
        Expect.same("statements()", x.statements(), due.length);
        for (int statement = 0; statement < due.length; statement++) {
            Expect.same("isReached(" + statement + ")", x.isReached(statement) ? 1 : 0, due[statement]);
        }
    }

    private static void ways() {
        Expect.holds("One goes from it to the next one; from GO to the STATEMENT t alone, from IF to both", () -> {
            Ironwood x = new Ironwood();
            x.branch(IF, 3);
            x.branch(GO, 5);
            x.finish(NONE);
            x.branch(GO, 6);
            x.finish(NONE);
            x.finish(NONE);
            x.finish(NONE);
            reached(x, 1, 1, 0, 1, 0, 1, 1);
        });
        Expect.holds("from END nowhere", () -> {
            Ironwood x = ofEachKind();
            x.finish(NONE);
            x.finish(0);
            reached(x, 1, 0);
            x.undo();
            x.undo();
            x.finish(0);
            x.read(0, WHOLE);
            reached(x, 1, 0);
        });
        Expect.holds("to itself, to the next one, to the first one, and to the last one", () -> {
            Ironwood itself = new Ironwood();
            itself.branch(GO, 0);
            itself.finish(NONE);
            reached(itself, 1, 0);
            itself.setTarget(0, 1);
            reached(itself, 1, 1);
            Ironwood both = new Ironwood();
            both.branch(IF, 0);
            both.finish(NONE);
            reached(both, 1, 1);
            both.setTarget(0, 1);
            reached(both, 1, 1);
            Ironwood first = new Ironwood();
            first.branch(GO, 2);
            first.finish(NONE);
            first.branch(IF, 0);
            reached(first, 1, 0, 1);
            Ironwood last = row(39);
            last.branch(GO, 0);
            last.setTarget(39, 39);
            Expect.yes("isReached(39)", last.isReached(39));
        });
    }

    private static void farWays() {
        Expect.holds("back and back, from each STATEMENT to the one ahead of it", () -> {
            Ironwood x = new Ironwood();
            x.branch(GO, 39);
            x.finish(NONE);
            while (x.statements() < 40) {
                x.branch(GO, x.statements() - 1);
            }
            for (int statement = 0; statement < 40; statement++) {
                Expect.yes("isReached(" + statement + ")", x.isReached(statement));
            }
            Expect.same("setTarget(20, 40)", x.setTarget(20, 40), 19);
            for (int statement = 0; statement < 40; statement++) {
                Expect.same("isReached(" + statement + ")", x.isReached(statement) ? 1 : 0,
                        statement == 0 || statement >= 20 ? 1 : 0);
            }
        });
        Expect.holds("to the 40th STATEMENT alone", () -> {
            Ironwood x = ofEachKind();
            x.branch(GO, 39);
            while (x.statements() < 40) {
                x.read(0, WHOLE);
            }
            for (int statement = 0; statement < 40; statement++) {
                Expect.same("isReached(" + statement + ")", x.isReached(statement) ? 1 : 0,
                        statement == 0 || statement == 39 ? 1 : 0);
            }
        });
    }

    private static void theEndOfAll() {
        Expect.holds("a number that no STATEMENT has is the end of all", () -> {
            for (int target : new int[] {2, 3, 39, 40}) {
                Ironwood x = ofEachKind();
                x.branch(GO, target);
                x.read(4, WHOLE);
                reached(x, 1, 0);
                Expect.same("awaited() ahead of the end", x.awaited(0), 0);
                x.setTarget(0, 1);
                reached(x, 1, 1);
                Ironwood y = ofEachKind();
                y.branch(IF, target);
                y.finish(NONE);
                reached(y, 1, 1);
                Expect.same("awaited() at an IF to the end", y.awaited(0), 0);
            }
        });
        Expect.holds("a number that a STATEMENT has later is no end any more, and one when that is taken away", () -> {
            Ironwood x = ofEachKind();
            x.branch(GO, 2);
            x.finish(NONE);
            reached(x, 1, 0);
            x.read(4, WHOLE);
            reached(x, 1, 0, 1);
            Expect.same("awaited() at it", x.awaited(0), 1 << 4);
            x.undo();
            reached(x, 1, 0);
            Expect.same("awaited() at it, when it is the end again", x.awaited(0), 0);
            x.drop(4);
            reached(x, 1, 0, 1);
        });
        Expect.holds("the next one of the last one is the end of all, also with 40", () -> {
            Ironwood x = row(39);
            x.branch(IF, 40);
            Expect.yes("isReached(39)", x.isReached(39));
            Expect.same("awaited(39)", x.awaited(39), 0);
            Expect.same("setTarget(39, 0)", x.setTarget(39, 0), 40);
            Expect.same("awaited(39), round and round", x.awaited(39), 1);
            Ironwood y = ofKinds(1, false);
            y.read(0, WHOLE);
            Expect.same("faults() of one STATEMENT alone", y.faults(), 1);
        });
    }

    private static void whatIsNotReached() {
        Expect.holds("about STATEMENTS to which one can come from the STATEMENT 0 (itself, too)", () -> {
            Ironwood x = ofKinds(8, false);
            x.read(4, WHOLE);
            x.finish(NONE);
            x.read(5, WHOLE);
            x.lend(2, 1, WHOLE);
            x.write(1, WHOLE);
            x.read(2, BEHIND);
            reached(x, 1, 1, 0, 0, 0, 0);
            Expect.same("faults()", x.faults(), 1);
            Expect.same("faultsAt(0)", x.faultsAt(0), 1);
            Expect.same("awaited(0)", x.awaited(0), 1 << 4);
            for (int statement = 2; statement < 6; statement++) {
                Expect.same("canBe()", x.canBe(statement, 1, WHOLE), 0);
                Expect.same("holds()", x.holds(statement, 2), 0);
                Expect.no("canHold()", x.canHold(statement, 2, 3));
                Expect.same("awaited()", x.awaited(statement), 0);
                Expect.no("isLive()", x.isLive(3, statement));
                Expect.same("faultsAt()", x.faultsAt(statement), 0);
            }
            Expect.same("loans()", x.loans(), 0);
            Expect.same("region(3)", x.region(3), -1);
        });
        Expect.holds("One cannot come to it: what it does comes nowhere, though one goes from it", () -> {
            Ironwood x = ofEachKind();
            x.branch(GO, 3);
            x.drop(1);
            x.lend(2, 0, WHOLE);
            x.read(1, WHOLE);
            x.read(2, BEHIND);
            reached(x, 1, 0, 0, 1, 1);
            canBe(x, 3, 1, MADE);
            Expect.same("holds(4, 2)", x.holds(4, 2), 0);
            Expect.same("faults()", x.faults(), 0);
        });
    }
}
