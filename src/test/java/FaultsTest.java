import java.util.ArrayList;
import java.util.List;

/** Each sentence on FAULTS that names an edge: none, the first, the smallest, the last, and itself. */
public final class FaultsTest extends Samples {
    private FaultsTest() {
    }

    public static void main(String[] args) {
        ofCells();
        ofCellsGone();
        againstLoans();
        ofEnds();
        ofEndsOrdered();
        order();
        orderOfAccesses();
        most();
        reasons();
        reasonsMadeSince();
        reasonsOfLoans();
        holders();
        nexts();
        nextsNotSet();
        nextsFarOff();
        Expect.end("FaultsTest");
    }

    /** The FAULTS noted at the STATEMENT have to be these, each as told by 1 to 6. */
    private static void faultsAt(Ironwood x, int statement, int[]... due) {
        List<String> got = new ArrayList<>();
        for (int fault = 0; fault < x.faults(); fault++) {
            if (x.ofFault(fault, 0) == statement) {
                StringBuilder text = new StringBuilder();
                for (int what = 1; what <= 6; what++) {
                    text.append(x.ofFault(fault, what)).append(' ');
                }
                got.add(text.toString());
            }
        }
        List<String> dues = new ArrayList<>();
        for (int[] each : due) {
            StringBuilder text = new StringBuilder();
            for (int number : each) {
                text.append(number).append(' ');
            }
            dues.add(text.toString());
        }
        Expect.same("the FAULTS at " + statement, got.toString(), dues.toString());
        Expect.same("faultsAt(" + statement + ")", x.faultsAt(statement), due.length);
    }

    private static int[] fault(int... numbers) {
        return numbers;
    }

    private static void ofCells() {
        Expect.holds("1, READ or MOVE of a PLACE of which a CELL can be UNMADE", () -> {
            for (int v = 0; v < 4; v++) {
                int of = v;
                onUnmade("READ", fault(1, v, WHOLE, -1, -1, -1), x -> x.read(of, WHOLE));
                onUnmade("MOVE", fault(1, v, WHOLE, -1, -1, -1), x -> x.move(of + 4, of, WHOLE));
                onUnmade("CALL", fault(1, v, WHOLE, -1, -1, -1), x -> x.call(5, of, NONE, 0));
                onUnmade("END", fault(1, v, WHOLE, -1, -1, -1), x -> x.finish(of));
            }
            for (int place = 0; place <= 2; place++) {
                int field = place;
                onUnmade("READ of a FIELD", fault(1, 1, place, -1, -1, -1), x -> x.read(1, field));
                onUnmade("MOVE of a FIELD", fault(1, 1, place, -1, -1, -1), x -> x.move(5, 1, field));
            }
        });
        Expect.holds("1, of which a CELL can be UNMADE: one of three, on one way of two", () -> {
            Ironwood x = ofEachKind();
            x.branch(IF, 2);
            x.drop(5);
            x.write(5, 0);
            x.write(5, 2);
            x.read(5, 0);
            x.read(5, 1);
            x.read(5, WHOLE);
            faultsAt(x, 4);
            faultsAt(x, 5, fault(1, 5, 1, -1, -1, -1));
            faultsAt(x, 6, fault(1, 5, WHOLE, -1, -1, -1));
        });
        Expect.holds("of BEHIND: READ or WRITE, and the CELL of its variable", () -> {
            onUnmade("READ", fault(1, 2, BEHIND, -1, -1, -1), x -> x.read(2, BEHIND));
            onUnmade("READ", fault(1, 3, BEHIND, -1, -1, -1), x -> x.read(3, BEHIND));
            onUnmade("WRITE", fault(1, 3, BEHIND, -1, -1, -1), x -> x.write(3, BEHIND));
        });
        Expect.holds("the first ACCESS of LEND and RELEND also where it is a WRITE", () -> {
            for (int to = 2; to <= 3; to++) {
                int v = to;
                onUnmade("LEND", fault(1, 0, WHOLE, -1, -1, -1), x -> x.lend(v, 0, WHOLE));
                onUnmade("LEND", fault(1, 1, WHOLE, -1, -1, -1), x -> x.lend(v, 1, WHOLE));
                onUnmade("LEND of a FIELD", fault(1, 1, 1, -1, -1, -1), x -> x.lend(v, 1, 1));
                onUnmade("RELEND", fault(1, 7, BEHIND, -1, -1, -1), x -> x.relend(v, 7));
            }
            onUnmade("RELEND of a SHARED one", fault(1, 6, BEHIND, -1, -1, -1), x -> x.relend(2, 6));
        });
    }

    private static void ofCellsGone() {
        Expect.holds("2, likewise, GONE", () -> {
            goneBehindMove(x -> x.read(1, WHOLE), fault(2, 1, WHOLE, 0, -1, -1));
            goneBehindMove(x -> x.read(1, 1), fault(2, 1, 1, 0, -1, -1));
            goneBehindMove(x -> x.read(1, 0));
            goneBehindMove(x -> x.read(1, 2));
            goneBehindMove(x -> x.move(5, 1, WHOLE), fault(2, 1, WHOLE, 0, -1, -1));
            goneBehindMove(x -> x.move(5, 1, 1), fault(2, 1, 1, 0, -1, -1));
            goneBehindMove(x -> x.move(5, 1, 0));
            goneBehindMove(x -> x.move(1, 1, 2));
            goneBehindMove(x -> x.lend(2, 1, WHOLE), fault(2, 1, WHOLE, 0, -1, -1));
            goneBehindMove(x -> x.lend(7, 1, 1), fault(2, 1, 1, 0, -1, -1));
            goneBehindMove(x -> x.lend(7, 1, 2));
            goneBehindMove(x -> x.call(5, 1, NONE, 0), fault(2, 1, WHOLE, 0, -1, -1));
            goneBehindMove(x -> x.finish(1), fault(2, 1, WHOLE, 0, -1, -1));
            loanGone(x -> x.read(3, WHOLE), fault(2, 3, WHOLE, 0, -1, -1));
            loanGone(x -> x.read(3, BEHIND), fault(2, 3, BEHIND, 0, -1, -1));
            loanGone(x -> x.write(3, BEHIND), fault(2, 3, BEHIND, 0, -1, -1));
            loanGone(x -> x.relend(2, 3), fault(2, 3, BEHIND, 0, -1, -1));
            loanGone(x -> x.finish(3), fault(2, 3, WHOLE, 0, -1, -1));
        });
        Expect.holds("what SETS tells neither of both, nor do other WRITES and DROPS", () -> {
            Ironwood x = ofKinds(8, false);
            x.write(0, WHOLE);
            x.write(1, WHOLE);
            x.write(5, 2);
            x.drop(6);
            x.call(7, NONE, NONE, 0);
            x.lend(3, 0, WHOLE);
            Expect.same("faults() of what is UNMADE", x.faults(), 0);
            goneBehindMove(y -> y.write(1, WHOLE));
            goneBehindMove(y -> y.write(1, 1));
            goneBehindMove(y -> y.drop(1));
            goneBehindMove(y -> y.call(1, NONE, NONE, 0));
            loanGone(y -> y.drop(3));
            loanGone(y -> y.lend(3, 0, WHOLE));
        });
    }

    private static void onUnmade(String call, int[] due, Telling told) {
        Ironwood x = ofKinds(8, false);
        told.tell(x);
        Expect.same("faults() of a " + call, x.faults(), 1);
        faultsAt(x, 0, due);
        Ironwood made = ofEachKind();
        told.tell(made);
        Expect.same("faults() of a " + call + " of what is made", made.faults(), 0);
    }

    /** The FIELD 1 of 1 is GONE by the STATEMENT 0. */
    private static void goneBehindMove(Telling told, int[]... due) {
        Ironwood x = ofEachKind();
        x.move(5, 1, 1);
        told.tell(x);
        faultsAt(x, 1, due);
        Expect.same("faults()", x.faults(), due.length);
    }

    private static void loanGone(Telling told, int[]... due) {
        Ironwood x = ofEachKind();
        x.move(7, 3, WHOLE);
        told.tell(x);
        faultsAt(x, 1, due);
    }

    /** 3 holds the LOAN 0, ALONE, and 2 the LOAN 1, both of other CELLS of 1; both are read behind it. */
    private static void against(Telling told, int[]... due) {
        Ironwood x = ofEachKind();
        x.lend(3, 1, 0);
        x.lend(2, 1, 1);
        told.tell(x);
        x.read(2, BEHIND);
        x.read(3, BEHIND);
        faultsAt(x, 2, due);
        Expect.same("faults()", x.faults(), due.length);
        x.undo();
        x.undo();
        faultsAt(x, 2);
    }

    private static void againstLoans() {
        Expect.holds("3, MOVE or DROP of a PLACE that MEETS that of a LOAN that is LIVE there", () -> {
            against(x -> x.move(5, 1, 0), fault(3, 1, 0, 0, 3, 4));
            against(x -> x.move(5, 1, 1), fault(3, 1, 1, 1, 2, 3));
            against(x -> x.move(5, 1, 2));
            against(x -> x.move(5, 1, WHOLE), fault(3, 1, WHOLE, 0, 3, 4));
            against(x -> x.drop(1), fault(3, 1, WHOLE, 0, 3, 4));
            against(x -> x.call(0, 1, NONE, 0), fault(3, 1, WHOLE, 0, 3, 4));
            against(x -> x.call(0, NONE, 1, 0), fault(3, 1, WHOLE, 0, 3, 4));
        });
        Expect.holds("4, WRITE of such a one (what SETS, too)", () -> {
            against(x -> x.write(1, 0), fault(4, 1, 0, 0, 3, 4));
            against(x -> x.write(1, 1), fault(4, 1, 1, 1, 2, 3));
            against(x -> x.write(1, 2));
            against(x -> x.write(1, WHOLE), fault(4, 1, WHOLE, 0, 3, 4));
            against(x -> x.move(1, 5, WHOLE), fault(4, 1, WHOLE, 0, 3, 4));
            against(x -> x.move(1, 1, 2), fault(4, 1, WHOLE, 0, 3, 4));
            against(x -> x.move(1, 1, 0), fault(3, 1, 0, 0, 3, 4), fault(4, 1, WHOLE, 0, 3, 4));
            against(x -> x.call(1, NONE, NONE, 0), fault(4, 1, WHOLE, 0, 3, 4));
            against(x -> x.lend(7, 1, 1), fault(4, 1, 1, 1, 2, 3));
            against(x -> x.lend(7, 1, 2));
            against(x -> x.lend(7, 1, WHOLE), fault(4, 1, WHOLE, 0, 3, 4));
        });
        Expect.holds("5, READ of a PLACE that MEETS that of a LOAN ALONE that is LIVE there", () -> {
            against(x -> x.read(1, 0), fault(5, 1, 0, 0, 3, 4));
            against(x -> x.read(1, 1));
            against(x -> x.read(1, WHOLE), fault(5, 1, WHOLE, 0, 3, 4));
            against(x -> x.lend(6, 1, 0), fault(5, 1, 0, 0, 3, 4));
            against(x -> x.lend(6, 1, 1));
            against(x -> x.lend(6, 1, WHOLE), fault(5, 1, WHOLE, 0, 3, 4));
        });
        Expect.holds("what USES nothing of it, or uses it behind the LOAN, has no FAULT", () -> {
            against(x -> x.read(2, BEHIND));
            against(x -> x.read(3, BEHIND));
            against(x -> x.write(3, BEHIND));
            against(x -> x.read(3, WHOLE));
            against(x -> x.branch(IF, 3));
            against(x -> x.read(0, WHOLE));
        });
        Expect.holds("LIVE there: not any more where the last use was, nor ahead of where it is lent", () -> {
            Ironwood x = ofEachKind();
            x.write(0, WHOLE);
            x.lend(2, 0, WHOLE);
            x.read(2, BEHIND);
            x.write(0, WHOLE);
            x.branch(GO, 40);
            Expect.same("faults()", x.faults(), 0);
            x.setTarget(4, 2);
            Expect.same("faults(), round and round", x.faults(), 1);
            faultsAt(x, 3, fault(4, 0, WHOLE, 1, 2, 2));
            x.setTarget(4, 1);
            Expect.same("faults(), round by where it is lent anew", x.faults(), 0);
            x.setTarget(4, 0);
            Expect.same("faults(), round by all", x.faults(), 0);
        });
    }

    private static void ofEnds() {
        Expect.holds("6, END, of a variable that can hold a LOAN, of a PLACE that is not BEHIND", () -> {
            for (int kind = SHARED; kind <= ALONE; kind++) {
                for (int place = -1; place <= 2; place++) {
                    Ironwood x = ofEachKind();
                    x.lend(kind, 1, place);
                    x.finish(kind);
                    faultsAt(x, 1, fault(6, kind, WHOLE, 0, -1, -1));
                }
                Ironwood none = ofEachKind();
                none.finish(kind);
                Expect.same("faults() of an END without a LOAN", none.faults(), 0);
            }
            Ironwood behind = ofEachKind();
            behind.relend(2, 6);
            behind.finish(2);
            Expect.same("faults() of an END of what is BEHIND", behind.faults(), 0);
            Ironwood other = ofEachKind();
            other.lend(2, 0, WHOLE);
            other.finish(6);
            Expect.same("faults() of an END of another one", other.faults(), 0);
            Ironwood none = ofEachKind();
            none.lend(2, 0, WHOLE);
            none.finish(NONE);
            Expect.same("faults() of an END of none", none.faults(), 0);
        });
        Expect.holds("6, LIVE or not: held on one way of two", () -> {
            Ironwood x = ofEachKind();
            x.branch(IF, 2);
            x.lend(3, 0, WHOLE);
            x.branch(IF, 4);
            x.lend(3, 1, 2);
            x.finish(3);
            faultsAt(x, 4, fault(6, 3, WHOLE, 1, -1, -1));
        });
    }

    private static void ofEndsOrdered() {
        Expect.holds("6, the smallest LOAN that is not BEHIND", () -> {
            Ironwood x = ofEachKind();
            x.relend(2, 6);
            x.relend(6, 2);
            x.lend(3, 1, 2);
            x.call(2, 6, 3, 3);
            x.finish(2);
            Expect.same("holds()", x.holds(4, 2), 3);
            faultsAt(x, 4, fault(6, 2, WHOLE, 2, -1, -1));
        });
        Expect.holds("6, noted behind the others of its ACCESS", () -> {
            Ironwood x = new Ironwood();
            x.variable(PLAIN, true);
            x.variable(ALONE, true);
            x.variable(ALONE, false);
            x.relend(2, 1);
            x.relend(1, 2);
            x.branch(IF, 4);
            x.move(2, 1, WHOLE);
            x.branch(IF, 6);
            x.drop(1);
            x.branch(IF, 8);
            x.lend(1, 0, WHOLE);
            x.finish(1);
            faultsAt(x, 8, fault(1, 1, WHOLE, -1, -1, -1), fault(2, 1, WHOLE, 3, -1, -1),
                    fault(3, 1, WHOLE, 0, 1, 8), fault(6, 1, WHOLE, 7, -1, -1));
        });
        Expect.holds("6, END alone: a CALL or MOVE of it has none", () -> {
            Ironwood x = ofEachKind();
            x.lend(3, 0, WHOLE);
            x.move(7, 3, WHOLE);
            x.call(1, 7, NONE, 3);
            Expect.same("faults()", x.faults(), 0);
            Expect.same("faultsOf(6)", x.faultsOf(6), 0);
        });
    }

    private static void order() {
        Expect.holds("each code once at most for an ACCESS, the smaller code first", () -> {
            Ironwood x = ofEachKind();
            x.lend(2, 1, 0);
            x.lend(6, 1, 1);
            x.lend(3, 1, 2);
            x.branch(IF, 5);
            x.drop(1);
            x.branch(IF, 7);
            x.move(5, 1, WHOLE);
            x.move(5, 1, WHOLE);
            x.call(0, 2, 6, 0);
            x.read(3, BEHIND);
            faultsAt(x, 4, fault(3, 1, WHOLE, 0, 2, 8));
            faultsAt(x, 6, fault(1, 1, WHOLE, -1, -1, -1), fault(3, 1, WHOLE, 0, 2, 8));
            faultsAt(x, 7, fault(1, 1, WHOLE, -1, -1, -1), fault(2, 1, WHOLE, 6, -1, -1),
                    fault(3, 1, WHOLE, 0, 2, 8));
            Expect.same("faults()", x.faults(), 6);
        });
        Expect.holds("STATEMENT by STATEMENT, by numbers, not as one comes to them", () -> {
            Ironwood x = ofKinds(8, false);
            x.branch(GO, 3);
            x.read(1, 2);
            x.finish(NONE);
            x.read(0, WHOLE);
            x.branch(GO, 1);
            int[][] due = {{1, 1, 1, 2, -1, -1, -1}, {3, 1, 0, WHOLE, -1, -1, -1}};
            Expect.same("faults()", x.faults(), due.length);
            for (int k = 0; k < due.length; k++) {
                for (int what = 0; what <= 6; what++) {
                    Expect.same("ofFault(" + k + ", " + what + ")", x.ofFault(k, what), due[k][what]);
                }
            }
        });
    }

    private static void orderOfAccesses() {
        Expect.holds("ACCESS by ACCESS, in order, what SETS last", () -> {
            Ironwood x = ofKinds(8, false);
            x.lend(2, 0, WHOLE);
            x.call(0, 5, 1, 0);
            x.read(2, BEHIND);
            faultsAt(x, 1, fault(1, 5, WHOLE, -1, -1, -1), fault(1, 1, WHOLE, -1, -1, -1),
                    fault(4, 0, WHOLE, 0, 2, 2));
        });
        Expect.holds("as many as there can be at one STATEMENT: seven", () -> {
            Ironwood x = new Ironwood();
            x.variable(OWNED, false);
            x.variable(OWNED, false);
            x.variable(SHARED, false);
            x.variable(PLAIN, true);
            x.variable(SHARED, false);
            x.lend(2, 0, WHOLE);
            x.lend(4, 1, WHOLE);
            x.call(2, 2, 4, 3);
            x.lend(4, 3, WHOLE);
            x.call(4, 2, 4, 3);
            x.call(3, 0, 1, 0);
            x.read(4, BEHIND);
            x.branch(IF, 5);
            faultsAt(x, 5, fault(1, 0, WHOLE, -1, -1, -1), fault(2, 0, WHOLE, 5, -1, -1),
                    fault(3, 0, WHOLE, 0, 4, 6), fault(1, 1, WHOLE, -1, -1, -1),
                    fault(2, 1, WHOLE, 5, -1, -1), fault(3, 1, WHOLE, 1, 4, 6),
                    fault(4, 3, WHOLE, 3, 4, 6));
        });
    }

    private static void most() {
        Expect.holds("as many as there are: at each of 40 some", () -> {
            Ironwood x = manyFaults();
            int sum = 0;
            for (int statement = 0; statement < 39; statement++) {
                int due = statement < 2 ? 2 : statement == 2 ? 1 : statement == 3 ? 7 : statement < 37 ? 5 : 0;
                Expect.same("faultsAt(" + statement + ")", x.faultsAt(statement), due);
                for (int k = 0; k < due; k++) {
                    Expect.same("the STATEMENT of the FAULT " + (sum + k), x.ofFault(sum + k, 0), statement);
                }
                sum += due;
            }
            Expect.same("faults()", x.faults(), sum);
            Expect.same("density()", x.density(), sum / 40.0);
            int[] due = {5, 70, 68, 34, 0, 0};
            Ironwood codes = manyFaults();
            for (int code = 1; code <= 6; code++) {
                Expect.same("faultsOf(" + code + ")", codes.faultsOf(code), due[code - 1]);
            }
        });
    }

    private static Ironwood manyFaults() {
        Ironwood x = new Ironwood();
        for (int v = 0; v < 12; v++) {
            x.variable(v < 3 ? OWNED : SHARED, false);
        }
        x.lend(3, 0, WHOLE);
        x.lend(4, 1, WHOLE);
        x.lend(5, 2, WHOLE);
        while (x.statements() < 37) {
            x.call(2, 0, 1, 3);
        }
        x.call(11, 3, 4, 3);
        x.read(5, BEHIND);
        x.branch(IF, 0);
        return x;
    }

    private static void reasons() {
        Expect.holds("with 2 the smallest STATEMENT by which such a CELL can be GONE", () -> {
            Ironwood x = ofEachKind();
            x.branch(IF, 3);
            x.move(5, 1, 2);
            x.branch(GO, 4);
            x.move(5, 1, 0);
            x.read(1, WHOLE);
            x.read(1, 0);
            x.read(1, 2);
            x.move(5, 1, 1);
            x.read(1, WHOLE);
            faultsAt(x, 4, fault(2, 1, WHOLE, 1, -1, -1));
            faultsAt(x, 5, fault(2, 1, 0, 3, -1, -1));
            faultsAt(x, 6, fault(2, 1, 2, 1, -1, -1));
            faultsAt(x, 8, fault(2, 1, WHOLE, 1, -1, -1));
        });
        Expect.holds("with 2 the smallest STATEMENT: itself, and one behind it, round and round", () -> {
            Ironwood x = ofEachKind();
            x.read(1, 0);
            x.move(5, 1, 0);
            x.branch(IF, 0);
            faultsAt(x, 0, fault(2, 1, 0, 1, -1, -1));
            faultsAt(x, 1, fault(2, 1, 0, 1, -1, -1));
            Ironwood first = ofEachKind();
            first.move(7, 3, WHOLE);
            first.branch(GO, 0);
            faultsAt(first, 0, fault(2, 3, WHOLE, 0, -1, -1));
            Ironwood last = ofEachKind();
            last.read(1, 0);
            while (last.statements() < 38) {
                last.read(0, WHOLE);
            }
            last.branch(IF, 40);
            last.move(1, 5, WHOLE);
            last.setTarget(38, 0);
            Expect.same("faults() of a MOVE that comes nowhere", last.faults(), 0);
        });
    }

    private static void reasonsMadeSince() {
        Expect.holds("with 2 by which such a CELL can be GONE: not where it was made since", () -> {
            Ironwood x = ofEachKind();
            x.move(5, 1, 0);
            x.write(1, 0);
            x.move(5, 1, 0);
            x.read(1, 0);
            faultsAt(x, 3, fault(2, 1, 0, 2, -1, -1));
            Ironwood y = ofEachKind();
            y.move(5, 1, WHOLE);
            y.drop(1);
            y.write(1, 0);
            y.move(5, 1, 0);
            y.read(1, WHOLE);
            faultsAt(y, 4, fault(1, 1, WHOLE, -1, -1, -1), fault(2, 1, WHOLE, 3, -1, -1));
            Ironwood both = ofEachKind();
            both.move(5, 1, WHOLE);
            both.branch(IF, 3);
            both.write(1, WHOLE);
            both.branch(IF, 5);
            both.move(5, 1, WHOLE);
            both.read(1, 2);
            faultsAt(both, 5, fault(2, 1, 2, 0, -1, -1));
        });
        Expect.holds("with 2 by which such a CELL can be GONE: asked of one, and of another one then", () -> {
            Ironwood x = ofEachKind();
            x.read(1, 0);
            x.move(5, 1, 0);
            x.move(5, 1, 2);
            x.read(1, 2);
            x.branch(IF, 0);
            for (int times = 0; times < 2; times++) {
                faultsAt(x, 0, fault(2, 1, 0, 1, -1, -1));
                faultsAt(x, 3, fault(2, 1, 2, 2, -1, -1));
            }
        });
    }

    private static void reasonsOfLoans() {
        Expect.holds("with 3 to 6 the smallest LOAN of those that are told there", () -> {
            Ironwood x = ofEachKind();
            x.lend(6, 0, WHOLE);
            x.lend(2, 1, 0);
            x.lend(3, 1, 2);
            x.read(1, WHOLE);
            x.write(1, WHOLE);
            x.write(1, 2);
            x.drop(1);
            x.call(4, 2, 6, 0);
            x.read(3, BEHIND);
            faultsAt(x, 3, fault(5, 1, WHOLE, 2, 3, 8));
            faultsAt(x, 4, fault(4, 1, WHOLE, 1, 2, 7));
            faultsAt(x, 5, fault(4, 1, 2, 2, 3, 8));
            faultsAt(x, 6, fault(3, 1, WHOLE, 1, 2, 7));
        });
        Expect.holds("with 3 to 5 one of those that are LIVE: a smaller one that is not is passed over", () -> {
            Ironwood x = ofEachKind();
            x.lend(2, 1, WHOLE);
            x.lend(6, 1, WHOLE);
            x.write(1, WHOLE);
            x.read(6, BEHIND);
            faultsAt(x, 2, fault(4, 1, WHOLE, 1, 6, 3));
        });
        Expect.holds("with 1 there is none", () -> {
            Ironwood x = ofKinds(8, false);
            x.read(0, WHOLE);
            faultsAt(x, 0, fault(1, 0, WHOLE, -1, -1, -1));
        });
    }

    private static void holders() {
        Expect.holds("the HOLDER is the smallest variable that can hold that LOAN and is AWAITED", () -> {
            Ironwood x = ofEachKind();
            x.variable(SHARED, true);
            x.lend(8, 0, WHOLE);
            x.move(6, 8, WHOLE);
            x.move(2, 8, WHOLE);
            x.write(0, WHOLE);
            x.read(2, BEHIND);
            x.write(0, WHOLE);
            x.read(6, BEHIND);
            x.write(0, WHOLE);
            x.read(8, BEHIND);
            x.write(0, WHOLE);
            faultsAt(x, 3, fault(4, 0, WHOLE, 0, 2, 4));
            faultsAt(x, 5, fault(4, 0, WHOLE, 0, 6, 6));
            faultsAt(x, 7, fault(4, 0, WHOLE, 0, 8, 8));
            faultsAt(x, 9);
        });
        Expect.holds("the HOLDER is AWAITED, and holds it: a smaller one that does one of both is none", () -> {
            Ironwood x = ofEachKind();
            x.lend(2, 0, WHOLE);
            x.move(6, 2, WHOLE);
            x.lend(2, 4, WHOLE);
            x.write(0, WHOLE);
            x.read(2, BEHIND);
            x.read(6, BEHIND);
            faultsAt(x, 3, fault(4, 0, WHOLE, 0, 6, 5));
        });
        Expect.holds("with 6 there is neither HOLDER nor NEXT", () -> {
            Ironwood x = ofEachKind();
            x.lend(2, 0, WHOLE);
            x.finish(2);
            faultsAt(x, 1, fault(6, 2, WHOLE, 0, -1, -1));
        });
    }

    private static void nexts() {
        Expect.holds("the NEXT is the smallest STATEMENT that USES the HOLDER, not the nearest one", () -> {
            Ironwood x = ofEachKind();
            x.branch(GO, 2);
            x.read(2, BEHIND);
            x.lend(2, 0, WHOLE);
            x.write(0, WHOLE);
            x.read(2, WHOLE);
            x.branch(IF, 1);
            faultsAt(x, 3, fault(4, 0, WHOLE, 2, 2, 1));
            x.setTarget(5, 40);
            faultsAt(x, 3, fault(4, 0, WHOLE, 2, 2, 4));
        });
        Expect.holds("to which one can come from the STATEMENT of the FAULT (itself, too)", () -> {
            Ironwood x = ofEachKind();
            x.lend(3, 0, WHOLE);
            x.call(0, 3, NONE, 0);
            x.read(3, WHOLE);
            faultsAt(x, 1, fault(4, 0, WHOLE, 0, 3, 1));
        });
        Expect.holds("itself, too, also if it SETS it", () -> {
            Ironwood x = ofEachKind();
            x.lend(2, 1, WHOLE);
            x.call(2, 2, 1, 0);
            x.read(2, BEHIND);
            faultsAt(x, 1, fault(3, 1, WHOLE, 0, 2, 1));
            Ironwood round = ofEachKind();
            round.read(2, BEHIND);
            round.lend(2, 1, WHOLE);
            round.call(2, 2, 1, 0);
            round.branch(GO, 0);
            faultsAt(round, 2, fault(2, 1, WHOLE, 2, -1, -1), fault(3, 1, WHOLE, 1, 2, 2));
        });
    }

    private static void nextsNotSet() {
        Expect.holds("no STATEMENT ahead of it on that way SETTING it", () -> {
            Ironwood x = ofEachKind();
            x.branch(GO, 2);
            x.read(2, BEHIND);
            x.lend(2, 0, WHOLE);
            x.write(0, WHOLE);
            x.branch(IF, 7);
            x.lend(2, 4, WHOLE);
            x.branch(GO, 1);
            x.read(2, BEHIND);
            faultsAt(x, 3, fault(4, 0, WHOLE, 2, 2, 7));
            x.setTarget(6, 7);
            faultsAt(x, 3, fault(4, 0, WHOLE, 2, 2, 7));
            x.setTarget(4, 1);
            faultsAt(x, 3, fault(4, 0, WHOLE, 2, 2, 1));
        });
        Expect.holds("no STATEMENT ahead of it SETTING it: one that uses and SETS it is the last one", () -> {
            Ironwood x = ofEachKind();
            x.branch(GO, 2);
            x.read(2, BEHIND);
            x.lend(2, 0, WHOLE);
            x.write(0, WHOLE);
            x.call(2, 2, NONE, 1);
            x.branch(IF, 1);
            faultsAt(x, 3, fault(4, 0, WHOLE, 2, 2, 4));
        });
        Expect.holds("that of the FAULT is one ahead, if it is not the last: round and round to itself", () -> {
            Ironwood x = ofEachKind();
            x.lend(6, 0, WHOLE);
            x.move(2, 6, WHOLE);
            x.branch(IF, 4);
            x.read(6, WHOLE);
            x.write(0, WHOLE);
            x.branch(IF, 3);
            x.read(2, BEHIND);
            faultsAt(x, 4, fault(4, 0, WHOLE, 0, 2, 6));
            Ironwood first = ofEachKind();
            first.lend(6, 0, WHOLE);
            first.write(0, WHOLE);
            first.branch(IF, 1);
            first.read(6, BEHIND);
            faultsAt(first, 1, fault(4, 0, WHOLE, 0, 6, 3));
        });
    }

    private static void nextsFarOff() {
        Expect.holds("the NEXT is one to which one comes by the STATEMENT 0", () -> {
            Ironwood x = ofEachKind();
            x.branch(IF, 3);
            x.read(2, BEHIND);
            x.finish(NONE);
            x.lend(2, 0, WHOLE);
            x.write(0, WHOLE);
            x.branch(GO, 0);
            faultsAt(x, 4, fault(4, 0, WHOLE, 3, 2, 1));
        });
        Expect.holds("the NEXT is the last one of 40, or the first one", () -> {
            Ironwood x = ofEachKind();
            x.lend(2, 0, WHOLE);
            x.write(0, WHOLE);
            while (x.statements() < 39) {
                x.read(4, WHOLE);
            }
            x.read(2, BEHIND);
            faultsAt(x, 1, fault(4, 0, WHOLE, 0, 2, 39));
            Ironwood y = ofEachKind();
            y.read(2, BEHIND);
            y.branch(IF, 39);
            y.lend(2, 0, WHOLE);
            while (y.statements() < 38) {
                y.read(4, WHOLE);
            }
            y.write(0, WHOLE);
            y.branch(GO, 0);
            faultsAt(y, 38, fault(4, 0, WHOLE, 2, 2, 0));
        });
    }
}
