/** Each sentence on WHAT CAN BE that names an edge: as one begins, on no way, on all ways, and round and round. */
public final class AheadTest extends Samples {
    private AheadTest() {
    }

    public static void main(String[] args) {
        cells();
        cellsMoved();
        cellsWritten();
        cellsDropped();
        loansHeld();
        loansLent();
        loansOfCalls();
        loansKept();
        awaited();
        live();
        roundAndRound();
        Expect.end("AheadTest");
    }

    private static void cells() {
        Expect.holds("ahead of the STATEMENT 0, also MADE, if of a PARAMETER, otherwise UNMADE", () -> {
            Ironwood x = new Ironwood();
            x.variable(OWNED, true);
            x.variable(OWNED, false);
            x.branch(IF, 4);
            x.drop(0);
            x.write(1, 1);
            x.branch(GO, 0);
            x.finish(NONE);
            canBe(x, 0, 0, UNMADE + MADE, UNMADE + MADE, UNMADE + MADE, UNMADE + MADE);
            canBe(x, 0, 1, UNMADE + MADE, UNMADE, UNMADE + MADE, UNMADE);
            canBe(x, 4, 1, UNMADE + MADE, UNMADE, UNMADE + MADE, UNMADE);
        });
        Expect.holds("what it can be behind any STATEMENT from which one goes there", () -> {
            Ironwood x = ofEachKind();
            x.branch(IF, 3);
            x.drop(1);
            x.branch(GO, 5);
            x.move(5, 1, 2);
            x.branch(IF, 6);
            x.finish(NONE);
            x.finish(NONE);
            canBe(x, 5, 1, UNMADE + MADE + GONE, UNMADE + MADE, UNMADE + MADE, UNMADE + GONE);
            canBe(x, 6, 1, MADE + GONE, MADE, MADE, GONE);
        });
    }

    private static void cellsMoved() {
        Expect.holds("by a MOVE each CELL of its PLACE is GONE, by this STATEMENT alone", () -> {
            Ironwood x = ofEachKind();
            x.variable(OWNED, true);
            x.move(5, 1, 0);
            x.move(5, 1, 0);
            x.read(1, WHOLE);
            x.move(5, 1, WHOLE);
            x.read(1, 0);
            canBe(x, 1, 1, MADE + GONE, GONE, MADE, MADE);
            canBe(x, 4, 1, GONE, GONE, GONE, GONE);
            Expect.same("faults()", x.faults(), 4);
            Expect.same("the REASON at the MOVE", x.ofFault(0, 4), 0);
            Expect.same("the REASON behind both", x.ofFault(1, 4), 1);
            Expect.same("the REASON at the last MOVE", x.ofFault(2, 4), 1);
            Expect.same("the REASON behind it", x.ofFault(3, 4), 3);
        });
        Expect.holds("by a WRITE (or what SETS) each one is MADE", () -> {
            Ironwood x = ofKinds(8, false);
            x.write(1, 1);
            x.write(0, WHOLE);
            x.write(1, WHOLE);
            x.call(5, NONE, NONE, 0);
            x.call(3, NONE, NONE, 0);
            x.lend(2, 0, WHOLE);
            x.finish(NONE);
            canBe(x, 1, 1, UNMADE + MADE, UNMADE, MADE, UNMADE);
            canBe(x, 2, 0, MADE);
            canBe(x, 3, 1, MADE, MADE, MADE, MADE);
            canBe(x, 4, 5, MADE, MADE, MADE, MADE);
            canBe(x, 5, 3, MADE);
            canBe(x, 6, 2, MADE);
        });
    }

    private static void cellsWritten() {
        Expect.holds("by a WRITE of what is GONE it is MADE", () -> {
            Ironwood x = ofEachKind();
            x.move(5, 1, WHOLE);
            x.write(1, 1);
            x.read(1, 1);
            x.write(1, WHOLE);
            x.read(1, WHOLE);
            canBe(x, 2, 1, MADE + GONE, GONE, MADE, GONE);
            canBe(x, 4, 1, MADE, MADE, MADE, MADE);
            Expect.same("faults()", x.faults(), 0);
        });
        Expect.holds("by a WRITE BEHIND, which is no CELL, nothing is MADE", () -> {
            Ironwood x = ofKinds(8, false);
            x.write(3, BEHIND);
            x.finish(NONE);
            canBe(x, 1, 3, UNMADE);
            for (int v = 0; v < 8; v++) {
                canBe(x, 1, v, UNMADE);
            }
        });
    }

    private static void cellsDropped() {
        Expect.holds("by a DROP each one is UNMADE, also if it is GONE, or UNMADE", () -> {
            Ironwood x = ofEachKind();
            x.move(5, 1, 1);
            x.drop(1);
            x.drop(1);
            x.read(1, 1);
            canBe(x, 2, 1, UNMADE, UNMADE, UNMADE, UNMADE);
            canBe(x, 3, 1, UNMADE, UNMADE, UNMADE, UNMADE);
            Expect.same("faults()", x.faults(), 1);
            Expect.same("the code", x.ofFault(0, 1), 1);
            for (int kind = 0; kind <= 3; kind++) {
                Ironwood y = ofEachKind();
                y.drop(kind);
                y.finish(NONE);
                canBe(y, 1, kind, UNMADE);
                canBe(y, 1, kind + 4, MADE);
            }
        });
        Expect.holds("READS change nothing", () -> {
            for (int kind = 0; kind <= 3; kind++) {
                for (int areParameters = 0; areParameters <= 1; areParameters++) {
                    Ironwood x = ofKinds(8, areParameters == 1);
                    x.read(kind, WHOLE);
                    x.finish(NONE);
                    canBe(x, 1, kind, areParameters == 1 ? MADE : UNMADE);
                }
            }
        });
        Expect.holds("All ACCESSES are first looked at, then they change it, with what is SET last", () -> {
            Ironwood x = ofEachKind();
            x.call(1, 1, NONE, 0);
            x.call(1, 5, 1, 0);
            x.move(1, 1, 2);
            x.move(1, 1, 0);
            x.finish(1);
            for (int statement = 1; statement <= 4; statement++) {
                canBe(x, statement, 1, MADE, MADE, MADE, MADE);
            }
            canBe(x, 2, 5, GONE);
            Expect.same("faults()", x.faults(), 0);
            Ironwood y = ofKinds(8, false);
            y.call(1, 1, NONE, 0);
            Expect.same("faults() of what is UNMADE ahead", y.faults(), 1);
        });
    }

    private static void heldThere(Ironwood x, int statement, int variable, int... due) {
        Expect.same("holds(" + statement + ", " + variable + ")", x.holds(statement, variable), due.length);
        for (int loan : due) {
            Expect.yes("canHold(" + statement + ", " + variable + ", " + loan + ")",
                    x.canHold(statement, variable, loan));
        }
    }

    /** 2 holds the LOAN 0, 3 the LOAN 1, 6 the LOANS 0 and 2, 7 the LOANS 1 and 3. */
    private static Ironwood holding() {
        Ironwood x = ofEachKind();
        x.variable(SHARED, true);
        x.variable(ALONE, true);
        x.lend(2, 0, WHOLE);
        x.lend(3, 1, WHOLE);
        x.relend(6, 2);
        x.relend(7, 3);
        return x;
    }

    private static void loansHeld() {
        Expect.holds("none ahead of the STATEMENT 0 as one begins; those of the way round, too", () -> {
            Ironwood x = ofEachKind();
            x.lend(2, 0, WHOLE);
            x.branch(IF, 3);
            x.finish(NONE);
            x.lend(6, 1, WHOLE);
            for (int v = 0; v < 8; v++) {
                heldThere(x, 0, v);
            }
            x.branch(GO, 0);
            heldThere(x, 0, 2, 0);
            heldThere(x, 0, 6, 3);
            heldThere(x, 2, 6, 3);
        });
        Expect.holds("by WRITE nothing; nothing, if v is PLAIN or OWNED", () -> {
            Ironwood x = holding();
            x.write(0, WHOLE);
            x.call(4, 2, 7, 3);
            x.call(5, 2, NONE, 3);
            x.move(0, 4, WHOLE);
            x.finish(NONE);
            for (int v : new int[] {0, 1, 4, 5}) {
                heldThere(x, 8, v);
            }
            heldThere(x, 8, 2, 0);
        });
        Expect.holds("by MOVE of a WHOLE what that can hold", () -> {
            Ironwood x = holding();
            x.move(8, 6, WHOLE);
            x.move(9, 7, WHOLE);
            x.move(2, 8, WHOLE);
            x.finish(NONE);
            heldThere(x, 7, 8, 0, 2);
            heldThere(x, 7, 9, 1, 3);
            heldThere(x, 7, 2, 0, 2);
            Ironwood none = holding();
            none.move(6, 8, WHOLE);
            none.finish(NONE);
            heldThere(none, 5, 6);
        });
    }

    private static void loansLent() {
        Expect.holds("by LEND its own LOAN", () -> {
            Ironwood x = holding();
            x.lend(6, 4, WHOLE);
            x.lend(7, 5, 1);
            x.finish(NONE);
            heldThere(x, 6, 6, 4);
            heldThere(x, 6, 7, 5);
        });
        Expect.holds("by RELEND its own, and what w can hold", () -> {
            Ironwood x = holding();
            x.relend(8, 6);
            x.relend(9, 7);
            x.relend(6, 9);
            x.relend(3, 7);
            x.finish(NONE);
            heldThere(x, 8, 8, 0, 2, 4);
            heldThere(x, 8, 9, 1, 3, 5);
            heldThere(x, 8, 6, 1, 3, 5, 6);
            heldThere(x, 8, 3, 1, 3, 7);
            Ironwood none = ofEachKind();
            none.relend(2, 3);
            none.finish(NONE);
            heldThere(none, 1, 2, 0);
        });
    }

    private static void loansOfCalls() {
        Expect.holds("by CALL what a (with ties 1 or 3) and b (with 2 or 3) can hold", () -> {
            int[][] due = {{}, {0, 2}, {1, 3}, {0, 1, 2, 3}};
            for (int ties = 0; ties <= 3; ties++) {
                for (int to = 8; to <= 9; to++) {
                    Ironwood x = holding();
                    x.call(to, 6, 7, ties);
                    x.finish(NONE);
                    heldThere(x, 5, to, due[ties]);
                }
            }
        });
        Expect.holds("by CALL, as far as they are told", () -> {
            for (int ties = 0; ties <= 3; ties++) {
                Ironwood x = holding();
                x.call(7, NONE, NONE, ties);
                x.call(8, 6, NONE, ties);
                x.call(9, NONE, 6, ties);
                x.finish(NONE);
                heldThere(x, 7, 7);
                heldThere(x, 7, 8, (ties & 1) != 0 ? new int[] {0, 2} : new int[0]);
                heldThere(x, 7, 9, (ties & 2) != 0 ? new int[] {0, 2} : new int[0]);
            }
        });
        Expect.holds("by CALL of v itself what it held, with such ties", () -> {
            for (int ties = 0; ties <= 3; ties++) {
                Ironwood x = holding();
                x.call(6, 6, NONE, ties);
                x.finish(NONE);
                heldThere(x, 5, 6, (ties & 1) != 0 ? new int[] {0, 2} : new int[0]);
            }
        });
    }

    private static void loansKept() {
        Expect.holds("Each other variable holds what it held (also behind a MOVE or DROP of it)", () -> {
            Ironwood x = holding();
            x.move(9, 7, WHOLE);
            x.drop(6);
            x.call(0, 3, 2, 3);
            x.write(7, BEHIND);
            x.write(1, WHOLE);
            x.finish(NONE);
            heldThere(x, 9, 2, 0);
            heldThere(x, 9, 3, 1);
            heldThere(x, 9, 6, 0, 2);
            heldThere(x, 9, 7, 1, 3);
        });
        Expect.holds("as many LOANS as there can be: all but the last one", () -> {
            Ironwood x = ofEachKind();
            x.lend(2, 0, WHOLE);
            while (x.statements() < 38) {
                x.relend(x.statements() % 2 == 0 ? 2 : 6, x.statements() % 2 == 0 ? 6 : 2);
            }
            x.relend(2, 6);
            x.relend(6, 2);
            Expect.same("loans()", x.loans(), 40);
            Expect.same("holds(39, 2)", x.holds(39, 2), 39);
            Expect.yes("canHold(39, 2, 38)", x.canHold(39, 2, 38));
            Expect.no("canHold(39, 2, 39)", x.canHold(39, 2, 39));
            for (int loan = 0; loan < 38; loan++) {
                Expect.yes("canHold(39, 6, " + loan + ")", x.canHold(39, 6, loan));
                Expect.yes("isLive(" + loan + ", 39)", x.isLive(loan, 39));
            }
        });
    }

    private static void awaited() {
        Expect.holds("AWAITED at a STATEMENT, if that USES it, also if that SETS it", () -> {
            Ironwood x = ofEachKind();
            x.call(3, 3, NONE, 0);
            x.move(1, 1, 0);
            x.finish(NONE);
            Expect.same("awaited(0)", x.awaited(0), (1 << 1) + (1 << 3));
            Expect.same("awaited(1)", x.awaited(1), 1 << 1);
            Expect.same("awaited(2)", x.awaited(2), 0);
        });
        Expect.holds("if that does not SET it, and it is AWAITED at one to which one goes from there", () -> {
            Ironwood x = ofEachKind();
            x.branch(IF, 3);
            x.call(3, NONE, NONE, 0);
            x.finish(3);
            x.drop(3);
            x.write(5, 0);
            x.branch(IF, 1);
            x.lend(2, 5, WHOLE);
            x.finish(2);
            int[] due = {1 << 5, 0, 1 << 3, 1 << 5, 1 << 5, 1 << 5, 1 << 5, 1 << 2};
            for (int statement = 0; statement < due.length; statement++) {
                Expect.same("awaited(" + statement + ")", x.awaited(statement), due[statement]);
            }
        });
        Expect.holds("so there is a way to a use; going round without one is none", () -> {
            Ironwood x = ofEachKind();
            x.branch(IF, 0);
            x.drop(0);
            x.branch(GO, 0);
            x.read(0, WHOLE);
            for (int statement = 0; statement < 4; statement++) {
                Expect.same("awaited(" + statement + ")", x.awaited(statement), 0);
            }
            x.setTarget(2, 3);
            Expect.same("awaited(0) with a way out", x.awaited(0), 1);
        });
        Expect.holds("there is a way to a use, also round and round, and by the last one of 40", () -> {
            Ironwood x = row(1);
            while (x.statements() < 39) {
                x.drop(4);
            }
            x.branch(GO, 0);
            for (int statement = 0; statement < 40; statement++) {
                Expect.same("awaited(" + statement + ")", x.awaited(statement), 1);
            }
        });
        Expect.holds("AWAITED: all 12, or none", () -> {
            Ironwood x = ofKinds(12, true);
            for (int v = 0; v < 12; v++) {
                x.read(v, WHOLE);
            }
            x.finish(NONE);
            for (int v = 0; v <= 12; v++) {
                Expect.same("awaited(" + v + ")", x.awaited(v), 4095 - ((1 << v) - 1));
            }
        });
    }

    private static void live() {
        Expect.holds("LIVE, if a variable that CAN HOLD it ahead of that is AWAITED at it", () -> {
            Ironwood x = ofEachKind();
            x.lend(2, 0, WHOLE);
            x.move(6, 2, WHOLE);
            x.read(2, BEHIND);
            x.call(2, NONE, NONE, 0);
            x.read(6, BEHIND);
            x.read(2, WHOLE);
            int[] due = {0, 1, 1, 1, 1, 0};
            for (int statement = 0; statement < due.length; statement++) {
                Expect.same("isLive(0, " + statement + ")", x.isLive(0, statement) ? 1 : 0, due[statement]);
            }
            Expect.same("region(0)", x.region(0), 4);
        });
        Expect.holds("LIVE: held by one, AWAITED another, is not", () -> {
            Ironwood x = ofEachKind();
            x.lend(2, 0, WHOLE);
            x.read(6, BEHIND);
            x.drop(2);
            Expect.no("isLive(0, 1)", x.isLive(0, 1));
            Expect.same("region(0)", x.region(0), 0);
        });
        Expect.holds("LIVE at all 40", () -> {
            Ironwood x = ofEachKind();
            x.lend(2, 0, WHOLE);
            x.branch(IF, 3);
            x.move(6, 2, WHOLE);
            while (x.statements() < 39) {
                x.read(6, BEHIND);
            }
            x.branch(IF, 0);
            for (int statement = 0; statement < 40; statement++) {
                Expect.yes("isLive(0, " + statement + ")", x.isLive(0, statement));
            }
            Expect.same("region(0)", x.region(0), 40);
        });
    }

    /**
     * One goes back and back from 14 to 1, and comes to 14 at once, and later again, by a way on
     * which the STATEMENT that is told has been: what that changes comes after all else.
     */
    private static Ironwood late(boolean isParameter, Telling told) {
        Ironwood x = ofKinds(8, isParameter);
        x.branch(GO, 15);
        x.finish(NONE);
        while (x.statements() < 15) {
            x.branch(GO, x.statements() - 1);
        }
        x.branch(IF, 14);
        x.branch(GO, 38);
        told.tell(x);
        x.branch(GO, 14);
        while (x.statements() < 39) {
            x.branch(GO, x.statements() == 19 ? 17 : x.statements() - 1);
        }
        return x;
    }

    private static void roundAndRound() {
        Expect.holds("behind any STATEMENT from which one goes there, however far, and however late", () -> {
            canBe(late(true, x -> x.drop(1)), 1, 1, UNMADE + MADE);
            canBe(late(false, x -> x.write(1, WHOLE)), 1, 1, UNMADE + MADE);
            canBe(late(false, x -> x.call(5, NONE, NONE, 0)), 1, 5, UNMADE + MADE);
            canBe(late(true, x -> x.move(5, 1, 2)), 1, 1, MADE + GONE, MADE, MADE, MADE + GONE);
            canBe(late(false, x -> x.move(5, 1, 2)), 1, 1, UNMADE + GONE, UNMADE, UNMADE, UNMADE + GONE);
            heldThere(late(true, x -> x.lend(2, 0, WHOLE)), 1, 2, 17);
            heldThere(late(true, x -> x.read(2, WHOLE)), 1, 2);
        });
        Expect.holds("AWAITED, LIVE and GONE BY, however far", () -> {
            Ironwood x = late(true, y -> y.read(3, BEHIND));
            for (int statement = 0; statement < 39; statement++) {
                Expect.same("awaited(" + statement + ")", x.awaited(statement),
                        statement == 0 || statement >= 15 && statement != 18 ? 8 : 0);
            }
            Ironwood gone = new Ironwood();
            gone.variable(OWNED, true);
            gone.variable(OWNED, true);
            gone.branch(GO, 39);
            gone.read(0, 1);
            while (gone.statements() < 39) {
                gone.branch(GO, gone.statements() - 1);
            }
            gone.move(1, 0, 1);
            Expect.same("faults() where one does not come", gone.faults(), 0);
            gone.undo();
            gone.undo();
            gone.setTarget(0, 37);
            gone.undo();
            gone.move(1, 0, 1);
            gone.branch(GO, 36);
            Expect.same("codeOf(37)", gone.codeOf(37), 1);
            Expect.same("faults()", gone.faults(), 1);
            Expect.same("the STATEMENT of the FAULT", gone.ofFault(0, 0), 1);
            Expect.same("the STATEMENT by which it is GONE", gone.ofFault(0, 4), 37);
        });
    }
}
