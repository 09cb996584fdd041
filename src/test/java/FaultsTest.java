import java.math.BigInteger;
import java.util.ArrayList;
import java.util.List;

/** Each sentence on FAULTS that names an edge, and on what is told of them: none, the first, the smallest, all. */
public final class FaultsTest extends Samples {
    private FaultsTest() {
    }

    public static void main(String[] args) {
        ofCells();
        againstLoans();
        ofEnds();
        order();
        most();
        reasons();
        holders();
        nexts();
        regions();
        asks();
        without();
        copied();
        culprit();
        density();
        digest();
        Expect.end("FaultsTest");
    }

    /** The FAULTS noted at the STATEMENT have to be these, each as told by 1 to 6. */
    private static void faultsAt(Ironwood x, int statement, int[]... due) {
        List<String> got = new ArrayList<>();
        for (int fault = 0; fault < x.faults(); fault++) {
            if (x.ofFault(fault, 0) == statement) {
                StringBuilder text = new StringBuilder();
                for (int what = 1; what <= 6; what++) {
                    text.append(x.ofFault(fault, what)).append(' ');
                }
                got.add(text.toString());
            }
        }
        List<String> dues = new ArrayList<>();
        for (int[] each : due) {
            StringBuilder text = new StringBuilder();
            for (int number : each) {
                text.append(number).append(' ');
            }
            dues.add(text.toString());
        }
        Expect.same("the FAULTS at " + statement, got.toString(), dues.toString());
        Expect.same("faultsAt(" + statement + ")", x.faultsAt(statement), due.length);
    }

    private static int[] fault(int... numbers) {
        return numbers;
    }

    private interface Telling {
        void tell(Ironwood x);
    }

    private static void ofCells() {
        Expect.holds("1, READ or MOVE of a PLACE of which a CELL can be UNMADE", () -> {
            for (int v = 0; v < 4; v++) {
                int of = v;
                onUnmade("READ", fault(1, v, WHOLE, -1, -1, -1), x -> x.read(of, WHOLE));
                onUnmade("MOVE", fault(1, v, WHOLE, -1, -1, -1), x -> x.move(of + 4, of, WHOLE));
                onUnmade("CALL", fault(1, v, WHOLE, -1, -1, -1), x -> x.call(5, of, NONE, 0));
                onUnmade("END", fault(1, v, WHOLE, -1, -1, -1), x -> x.finish(of));
            }
            for (int place = 0; place <= 2; place++) {
                int field = place;
                onUnmade("READ of a FIELD", fault(1, 1, place, -1, -1, -1), x -> x.read(1, field));
                onUnmade("MOVE of a FIELD", fault(1, 1, place, -1, -1, -1), x -> x.move(5, 1, field));
            }
        });
        Expect.holds("1, of which a CELL can be UNMADE: one of three, on one way of two", () -> {
            Ironwood x = ofEachKind();
            x.branch(IF, 2);
            x.drop(5);
            x.write(5, 0);
            x.write(5, 2);
            x.read(5, 0);
            x.read(5, 1);
            x.read(5, WHOLE);
            faultsAt(x, 4);
            faultsAt(x, 5, fault(1, 5, 1, -1, -1, -1));
            faultsAt(x, 6, fault(1, 5, WHOLE, -1, -1, -1));
        });
        Expect.holds("of BEHIND: READ or WRITE, and the CELL of its variable", () -> {
            onUnmade("READ", fault(1, 2, BEHIND, -1, -1, -1), x -> x.read(2, BEHIND));
            onUnmade("READ", fault(1, 3, BEHIND, -1, -1, -1), x -> x.read(3, BEHIND));
            onUnmade("WRITE", fault(1, 3, BEHIND, -1, -1, -1), x -> x.write(3, BEHIND));
        });
        Expect.holds("the first ACCESS of LEND and RELEND also where it is a WRITE", () -> {
            for (int to = 2; to <= 3; to++) {
                int v = to;
                onUnmade("LEND", fault(1, 0, WHOLE, -1, -1, -1), x -> x.lend(v, 0, WHOLE));
                onUnmade("LEND", fault(1, 1, WHOLE, -1, -1, -1), x -> x.lend(v, 1, WHOLE));
                onUnmade("LEND of a FIELD", fault(1, 1, 1, -1, -1, -1), x -> x.lend(v, 1, 1));
                onUnmade("RELEND", fault(1, 7, BEHIND, -1, -1, -1), x -> x.relend(v, 7));
            }
            onUnmade("RELEND of a SHARED one", fault(1, 6, BEHIND, -1, -1, -1), x -> x.relend(2, 6));
        });
        Expect.holds("2, likewise, GONE", () -> {
            goneBehindMove(x -> x.read(1, WHOLE), fault(2, 1, WHOLE, 0, -1, -1));
            goneBehindMove(x -> x.read(1, 1), fault(2, 1, 1, 0, -1, -1));
            goneBehindMove(x -> x.read(1, 0));
            goneBehindMove(x -> x.read(1, 2));
            goneBehindMove(x -> x.move(5, 1, WHOLE), fault(2, 1, WHOLE, 0, -1, -1));
            goneBehindMove(x -> x.move(5, 1, 1), fault(2, 1, 1, 0, -1, -1));
            goneBehindMove(x -> x.move(5, 1, 0));
            goneBehindMove(x -> x.move(1, 1, 2));
            goneBehindMove(x -> x.lend(2, 1, WHOLE), fault(2, 1, WHOLE, 0, -1, -1));
            goneBehindMove(x -> x.lend(7, 1, 1), fault(2, 1, 1, 0, -1, -1));
            goneBehindMove(x -> x.lend(7, 1, 2));
            goneBehindMove(x -> x.call(5, 1, NONE, 0), fault(2, 1, WHOLE, 0, -1, -1));
            goneBehindMove(x -> x.finish(1), fault(2, 1, WHOLE, 0, -1, -1));
            loanGone(x -> x.read(3, WHOLE), fault(2, 3, WHOLE, 0, -1, -1));
            loanGone(x -> x.read(3, BEHIND), fault(2, 3, BEHIND, 0, -1, -1));
            loanGone(x -> x.write(3, BEHIND), fault(2, 3, BEHIND, 0, -1, -1));
            loanGone(x -> x.relend(2, 3), fault(2, 3, BEHIND, 0, -1, -1));
            loanGone(x -> x.finish(3), fault(2, 3, WHOLE, 0, -1, -1));
        });
        Expect.holds("what SETS tells neither of both, nor do other WRITES and DROPS", () -> {
            Ironwood x = ofKinds(8, false);
            x.write(0, WHOLE);
            x.write(1, WHOLE);
            x.write(5, 2);
            x.drop(6);
            x.call(7, NONE, NONE, 0);
            x.lend(3, 0, WHOLE);
            Expect.same("faults() of what is UNMADE", x.faults(), 0);
            goneBehindMove(y -> y.write(1, WHOLE));
            goneBehindMove(y -> y.write(1, 1));
            goneBehindMove(y -> y.drop(1));
            goneBehindMove(y -> y.call(1, NONE, NONE, 0));
            loanGone(y -> y.drop(3));
            loanGone(y -> y.lend(3, 0, WHOLE));
        });
    }

    private static void onUnmade(String call, int[] due, Telling told) {
        Ironwood x = ofKinds(8, false);
        told.tell(x);
        Expect.same("faults() of a " + call, x.faults(), 1);
        faultsAt(x, 0, due);
        Ironwood made = ofEachKind();
        told.tell(made);
        Expect.same("faults() of a " + call + " of what is made", made.faults(), 0);
    }

    /** The FIELD 1 of 1 is GONE by the STATEMENT 0. */
    private static void goneBehindMove(Telling told, int[]... due) {
        Ironwood x = ofEachKind();
        x.move(5, 1, 1);
        told.tell(x);
        faultsAt(x, 1, due);
        Expect.same("faults()", x.faults(), due.length);
    }

    private static void loanGone(Telling told, int[]... due) {
        Ironwood x = ofEachKind();
        x.move(7, 3, WHOLE);
        told.tell(x);
        faultsAt(x, 1, due);
    }

    /** 3 holds the LOAN 0, ALONE, and 2 the LOAN 1, both of other CELLS of 1; both are read behind it. */
    private static void against(Telling told, int[]... due) {
        Ironwood x = ofEachKind();
        x.lend(3, 1, 0);
        x.lend(2, 1, 1);
        told.tell(x);
        x.read(2, BEHIND);
        x.read(3, BEHIND);
        faultsAt(x, 2, due);
        Expect.same("faults()", x.faults(), due.length);
        x.undo();
        x.undo();
        faultsAt(x, 2);
    }

    private static void againstLoans() {
        Expect.holds("3, MOVE or DROP of a PLACE that MEETS that of a LOAN that is LIVE there", () -> {
            against(x -> x.move(5, 1, 0), fault(3, 1, 0, 0, 3, 4));
            against(x -> x.move(5, 1, 1), fault(3, 1, 1, 1, 2, 3));
            against(x -> x.move(5, 1, 2));
            against(x -> x.move(5, 1, WHOLE), fault(3, 1, WHOLE, 0, 3, 4));
            against(x -> x.drop(1), fault(3, 1, WHOLE, 0, 3, 4));
            against(x -> x.call(0, 1, NONE, 0), fault(3, 1, WHOLE, 0, 3, 4));
            against(x -> x.call(0, NONE, 1, 0), fault(3, 1, WHOLE, 0, 3, 4));
        });
        Expect.holds("4, WRITE of such a one (what SETS, too)", () -> {
            against(x -> x.write(1, 0), fault(4, 1, 0, 0, 3, 4));
            against(x -> x.write(1, 1), fault(4, 1, 1, 1, 2, 3));
            against(x -> x.write(1, 2));
            against(x -> x.write(1, WHOLE), fault(4, 1, WHOLE, 0, 3, 4));
            against(x -> x.move(1, 5, WHOLE), fault(4, 1, WHOLE, 0, 3, 4));
            against(x -> x.move(1, 1, 2), fault(4, 1, WHOLE, 0, 3, 4));
            against(x -> x.move(1, 1, 0), fault(3, 1, 0, 0, 3, 4), fault(4, 1, WHOLE, 0, 3, 4));
            against(x -> x.call(1, NONE, NONE, 0), fault(4, 1, WHOLE, 0, 3, 4));
            against(x -> x.lend(7, 1, 1), fault(4, 1, 1, 1, 2, 3));
            against(x -> x.lend(7, 1, 2));
            against(x -> x.lend(7, 1, WHOLE), fault(4, 1, WHOLE, 0, 3, 4));
        });
        Expect.holds("5, READ of a PLACE that MEETS that of a LOAN ALONE that is LIVE there", () -> {
            against(x -> x.read(1, 0), fault(5, 1, 0, 0, 3, 4));
            against(x -> x.read(1, 1));
            against(x -> x.read(1, WHOLE), fault(5, 1, WHOLE, 0, 3, 4));
            against(x -> x.lend(6, 1, 0), fault(5, 1, 0, 0, 3, 4));
            against(x -> x.lend(6, 1, 1));
            against(x -> x.lend(6, 1, WHOLE), fault(5, 1, WHOLE, 0, 3, 4));
        });
        Expect.holds("what USES nothing of it, or uses it behind the LOAN, has no FAULT", () -> {
            against(x -> x.read(2, BEHIND));
            against(x -> x.read(3, BEHIND));
            against(x -> x.write(3, BEHIND));
            against(x -> x.read(3, WHOLE));
            against(x -> x.branch(IF, 3));
            against(x -> x.read(0, WHOLE));
        });
        Expect.holds("LIVE there: not any more where the last use was, nor ahead of where it is lent", () -> {
            Ironwood x = ofEachKind();
            x.write(0, WHOLE);
            x.lend(2, 0, WHOLE);
            x.read(2, BEHIND);
            x.write(0, WHOLE);
            x.branch(GO, 40);
            Expect.same("faults()", x.faults(), 0);
            x.setTarget(4, 2);
            Expect.same("faults(), round and round", x.faults(), 1);
            faultsAt(x, 3, fault(4, 0, WHOLE, 1, 2, 2));
            x.setTarget(4, 1);
            Expect.same("faults(), round by where it is lent anew", x.faults(), 0);
            x.setTarget(4, 0);
            Expect.same("faults(), round by all", x.faults(), 0);
        });
    }

    private static void ofEnds() {
        Expect.holds("6, END, of a variable that can hold a LOAN, of a PLACE that is not BEHIND", () -> {
            for (int kind = SHARED; kind <= ALONE; kind++) {
                for (int place = -1; place <= 2; place++) {
                    Ironwood x = ofEachKind();
                    x.lend(kind, 1, place);
                    x.finish(kind);
                    faultsAt(x, 1, fault(6, kind, WHOLE, 0, -1, -1));
                }
                Ironwood none = ofEachKind();
                none.finish(kind);
                Expect.same("faults() of an END without a LOAN", none.faults(), 0);
            }
            Ironwood behind = ofEachKind();
            behind.relend(2, 6);
            behind.finish(2);
            Expect.same("faults() of an END of what is BEHIND", behind.faults(), 0);
            Ironwood other = ofEachKind();
            other.lend(2, 0, WHOLE);
            other.finish(6);
            Expect.same("faults() of an END of another one", other.faults(), 0);
            Ironwood none = ofEachKind();
            none.lend(2, 0, WHOLE);
            none.finish(NONE);
            Expect.same("faults() of an END of none", none.faults(), 0);
        });
        Expect.holds("6, LIVE or not: held on one way of two", () -> {
            Ironwood x = ofEachKind();
            x.branch(IF, 2);
            x.lend(3, 0, WHOLE);
            x.branch(IF, 4);
            x.lend(3, 1, 2);
            x.finish(3);
            faultsAt(x, 4, fault(6, 3, WHOLE, 1, -1, -1));
        });
        Expect.holds("6, the smallest LOAN that is not BEHIND", () -> {
            Ironwood x = ofEachKind();
            x.relend(2, 6);
            x.relend(6, 2);
            x.lend(3, 1, 2);
            x.call(2, 6, 3, 3);
            x.finish(2);
            Expect.same("holds()", x.holds(4, 2), 3);
            faultsAt(x, 4, fault(6, 2, WHOLE, 2, -1, -1));
        });
        Expect.holds("6, noted behind the others of its ACCESS", () -> {
            Ironwood x = new Ironwood();
            x.variable(PLAIN, true);
            x.variable(ALONE, true);
            x.variable(ALONE, false);
            x.relend(2, 1);
            x.relend(1, 2);
            x.branch(IF, 4);
            x.move(2, 1, WHOLE);
            x.branch(IF, 6);
            x.drop(1);
            x.branch(IF, 8);
            x.lend(1, 0, WHOLE);
            x.finish(1);
            faultsAt(x, 8, fault(1, 1, WHOLE, -1, -1, -1), fault(2, 1, WHOLE, 3, -1, -1),
                    fault(3, 1, WHOLE, 0, 1, 8), fault(6, 1, WHOLE, 7, -1, -1));
        });
        Expect.holds("6, END alone: a CALL or MOVE of it has none", () -> {
            Ironwood x = ofEachKind();
            x.lend(3, 0, WHOLE);
            x.move(7, 3, WHOLE);
            x.call(1, 7, NONE, 3);
            Expect.same("faults()", x.faults(), 0);
            Expect.same("faultsOf(6)", x.faultsOf(6), 0);
        });
    }

    private static void order() {
        Expect.holds("each code once at most for an ACCESS, the smaller code first", () -> {
            Ironwood x = ofEachKind();
            x.lend(2, 1, 0);
            x.lend(6, 1, 1);
            x.lend(3, 1, 2);
            x.branch(IF, 5);
            x.drop(1);
            x.branch(IF, 7);
            x.move(5, 1, WHOLE);
            x.move(5, 1, WHOLE);
            x.call(0, 2, 6, 0);
            x.read(3, BEHIND);
            faultsAt(x, 4, fault(3, 1, WHOLE, 0, 2, 8));
            faultsAt(x, 6, fault(1, 1, WHOLE, -1, -1, -1), fault(3, 1, WHOLE, 0, 2, 8));
            faultsAt(x, 7, fault(1, 1, WHOLE, -1, -1, -1), fault(2, 1, WHOLE, 6, -1, -1),
                    fault(3, 1, WHOLE, 0, 2, 8));
            Expect.same("faults()", x.faults(), 6);
        });
        Expect.holds("STATEMENT by STATEMENT, by numbers, not as one comes to them", () -> {
            Ironwood x = ofKinds(8, false);
            x.branch(GO, 3);
            x.read(1, 2);
            x.finish(NONE);
            x.read(0, WHOLE);
            x.branch(GO, 1);
            int[][] due = {{1, 1, 1, 2, -1, -1, -1}, {3, 1, 0, WHOLE, -1, -1, -1}};
            Expect.same("faults()", x.faults(), due.length);
            for (int k = 0; k < due.length; k++) {
                for (int what = 0; what <= 6; what++) {
                    Expect.same("ofFault(" + k + ", " + what + ")", x.ofFault(k, what), due[k][what]);
                }
            }
        });
        Expect.holds("ACCESS by ACCESS, in order, what SETS last", () -> {
            Ironwood x = ofKinds(8, false);
            x.lend(2, 0, WHOLE);
            x.call(0, 5, 1, 0);
            x.read(2, BEHIND);
            faultsAt(x, 1, fault(1, 5, WHOLE, -1, -1, -1), fault(1, 1, WHOLE, -1, -1, -1),
                    fault(4, 0, WHOLE, 0, 2, 2));
        });
        Expect.holds("as many as there can be at one STATEMENT: seven", () -> {
            Ironwood x = new Ironwood();
            x.variable(OWNED, false);
            x.variable(OWNED, false);
            x.variable(SHARED, false);
            x.variable(PLAIN, true);
            x.variable(SHARED, false);
            x.lend(2, 0, WHOLE);
            x.lend(4, 1, WHOLE);
            x.call(2, 2, 4, 3);
            x.lend(4, 3, WHOLE);
            x.call(4, 2, 4, 3);
            x.call(3, 0, 1, 0);
            x.read(4, BEHIND);
            x.branch(IF, 5);
            faultsAt(x, 5, fault(1, 0, WHOLE, -1, -1, -1), fault(2, 0, WHOLE, 5, -1, -1),
                    fault(3, 0, WHOLE, 0, 4, 6), fault(1, 1, WHOLE, -1, -1, -1),
                    fault(2, 1, WHOLE, 5, -1, -1), fault(3, 1, WHOLE, 1, 4, 6),
                    fault(4, 3, WHOLE, 3, 4, 6));
        });
    }

    private static void most() {
        Expect.holds("as many as there are: at each of 40 some", () -> {
            Ironwood x = manyFaults();
            int sum = 0;
            for (int statement = 0; statement < 39; statement++) {
                int due = statement < 2 ? 2 : statement == 2 ? 1 : statement == 3 ? 7 : statement < 37 ? 5 : 0;
                Expect.same("faultsAt(" + statement + ")", x.faultsAt(statement), due);
                for (int k = 0; k < due; k++) {
                    Expect.same("the STATEMENT of the FAULT " + (sum + k), x.ofFault(sum + k, 0), statement);
                }
                sum += due;
            }
            Expect.same("faults()", x.faults(), sum);
            Expect.same("density()", x.density(), sum / 40.0);
            int[] due = {5, 70, 68, 34, 0, 0};
            Ironwood codes = manyFaults();
            for (int code = 1; code <= 6; code++) {
                Expect.same("faultsOf(" + code + ")", codes.faultsOf(code), due[code - 1]);
            }
        });
    }

    private static Ironwood manyFaults() {
        Ironwood x = new Ironwood();
        for (int v = 0; v < 12; v++) {
            x.variable(v < 3 ? OWNED : SHARED, false);
        }
        x.lend(3, 0, WHOLE);
        x.lend(4, 1, WHOLE);
        x.lend(5, 2, WHOLE);
        while (x.statements() < 37) {
            x.call(2, 0, 1, 3);
        }
        x.call(11, 3, 4, 3);
        x.read(5, BEHIND);
        x.branch(IF, 0);
        return x;
    }

    private static void reasons() {
        Expect.holds("with 2 the smallest STATEMENT by which such a CELL can be GONE", () -> {
            Ironwood x = ofEachKind();
            x.branch(IF, 3);
            x.move(5, 1, 2);
            x.branch(GO, 4);
            x.move(5, 1, 0);
            x.read(1, WHOLE);
            x.read(1, 0);
            x.read(1, 2);
            x.move(5, 1, 1);
            x.read(1, WHOLE);
            faultsAt(x, 4, fault(2, 1, WHOLE, 1, -1, -1));
            faultsAt(x, 5, fault(2, 1, 0, 3, -1, -1));
            faultsAt(x, 6, fault(2, 1, 2, 1, -1, -1));
            faultsAt(x, 8, fault(2, 1, WHOLE, 1, -1, -1));
        });
        Expect.holds("with 2 the smallest STATEMENT: itself, and one behind it, round and round", () -> {
            Ironwood x = ofEachKind();
            x.read(1, 0);
            x.move(5, 1, 0);
            x.branch(IF, 0);
            faultsAt(x, 0, fault(2, 1, 0, 1, -1, -1));
            faultsAt(x, 1, fault(2, 1, 0, 1, -1, -1));
            Ironwood first = ofEachKind();
            first.move(7, 3, WHOLE);
            first.branch(GO, 0);
            faultsAt(first, 0, fault(2, 3, WHOLE, 0, -1, -1));
            Ironwood last = ofEachKind();
            last.read(1, 0);
            while (last.statements() < 38) {
                last.read(0, WHOLE);
            }
            last.branch(IF, 40);
            last.move(1, 5, WHOLE);
            last.setTarget(38, 0);
            Expect.same("faults() of a MOVE that comes nowhere", last.faults(), 0);
        });
        Expect.holds("with 2 by which such a CELL can be GONE: not where it was made since", () -> {
            Ironwood x = ofEachKind();
            x.move(5, 1, 0);
            x.write(1, 0);
            x.move(5, 1, 0);
            x.read(1, 0);
            faultsAt(x, 3, fault(2, 1, 0, 2, -1, -1));
            Ironwood y = ofEachKind();
            y.move(5, 1, WHOLE);
            y.drop(1);
            y.write(1, 0);
            y.move(5, 1, 0);
            y.read(1, WHOLE);
            faultsAt(y, 4, fault(1, 1, WHOLE, -1, -1, -1), fault(2, 1, WHOLE, 3, -1, -1));
            Ironwood both = ofEachKind();
            both.move(5, 1, WHOLE);
            both.branch(IF, 3);
            both.write(1, WHOLE);
            both.branch(IF, 5);
            both.move(5, 1, WHOLE);
            both.read(1, 2);
            faultsAt(both, 5, fault(2, 1, 2, 0, -1, -1));
        });
        Expect.holds("with 2 by which such a CELL can be GONE: asked of one, and of another one then", () -> {
            Ironwood x = ofEachKind();
            x.read(1, 0);
            x.move(5, 1, 0);
            x.move(5, 1, 2);
            x.read(1, 2);
            x.branch(IF, 0);
            for (int times = 0; times < 2; times++) {
                faultsAt(x, 0, fault(2, 1, 0, 1, -1, -1));
                faultsAt(x, 3, fault(2, 1, 2, 2, -1, -1));
            }
        });
        Expect.holds("with 3 to 6 the smallest LOAN of those that are told there", () -> {
            Ironwood x = ofEachKind();
            x.lend(6, 0, WHOLE);
            x.lend(2, 1, 0);
            x.lend(3, 1, 2);
            x.read(1, WHOLE);
            x.write(1, WHOLE);
            x.write(1, 2);
            x.drop(1);
            x.call(4, 2, 6, 0);
            x.read(3, BEHIND);
            faultsAt(x, 3, fault(5, 1, WHOLE, 2, 3, 8));
            faultsAt(x, 4, fault(4, 1, WHOLE, 1, 2, 7));
            faultsAt(x, 5, fault(4, 1, 2, 2, 3, 8));
            faultsAt(x, 6, fault(3, 1, WHOLE, 1, 2, 7));
        });
        Expect.holds("with 3 to 5 one of those that are LIVE: a smaller one that is not is passed over", () -> {
            Ironwood x = ofEachKind();
            x.lend(2, 1, WHOLE);
            x.lend(6, 1, WHOLE);
            x.write(1, WHOLE);
            x.read(6, BEHIND);
            faultsAt(x, 2, fault(4, 1, WHOLE, 1, 6, 3));
        });
        Expect.holds("with 1 there is none", () -> {
            Ironwood x = ofKinds(8, false);
            x.read(0, WHOLE);
            faultsAt(x, 0, fault(1, 0, WHOLE, -1, -1, -1));
        });
    }

    private static void holders() {
        Expect.holds("the HOLDER is the smallest variable that can hold that LOAN and is AWAITED", () -> {
            Ironwood x = ofEachKind();
            x.variable(SHARED, true);
            x.lend(8, 0, WHOLE);
            x.move(6, 8, WHOLE);
            x.move(2, 8, WHOLE);
            x.write(0, WHOLE);
            x.read(2, BEHIND);
            x.write(0, WHOLE);
            x.read(6, BEHIND);
            x.write(0, WHOLE);
            x.read(8, BEHIND);
            x.write(0, WHOLE);
            faultsAt(x, 3, fault(4, 0, WHOLE, 0, 2, 4));
            faultsAt(x, 5, fault(4, 0, WHOLE, 0, 6, 6));
            faultsAt(x, 7, fault(4, 0, WHOLE, 0, 8, 8));
            faultsAt(x, 9);
        });
        Expect.holds("the HOLDER is AWAITED, and holds it: a smaller one that does one of both is none", () -> {
            Ironwood x = ofEachKind();
            x.lend(2, 0, WHOLE);
            x.move(6, 2, WHOLE);
            x.lend(2, 4, WHOLE);
            x.write(0, WHOLE);
            x.read(2, BEHIND);
            x.read(6, BEHIND);
            faultsAt(x, 3, fault(4, 0, WHOLE, 0, 6, 5));
        });
        Expect.holds("with 6 there is neither HOLDER nor NEXT", () -> {
            Ironwood x = ofEachKind();
            x.lend(2, 0, WHOLE);
            x.finish(2);
            faultsAt(x, 1, fault(6, 2, WHOLE, 0, -1, -1));
        });
    }

    private static void nexts() {
        Expect.holds("the NEXT is the smallest STATEMENT that USES the HOLDER, not the nearest one", () -> {
            Ironwood x = ofEachKind();
            x.branch(GO, 2);
            x.read(2, BEHIND);
            x.lend(2, 0, WHOLE);
            x.write(0, WHOLE);
            x.read(2, WHOLE);
            x.branch(IF, 1);
            faultsAt(x, 3, fault(4, 0, WHOLE, 2, 2, 1));
            x.setTarget(5, 40);
            faultsAt(x, 3, fault(4, 0, WHOLE, 2, 2, 4));
        });
        Expect.holds("to which one can come from the STATEMENT of the FAULT (itself, too)", () -> {
            Ironwood x = ofEachKind();
            x.lend(3, 0, WHOLE);
            x.call(0, 3, NONE, 0);
            x.read(3, WHOLE);
            faultsAt(x, 1, fault(4, 0, WHOLE, 0, 3, 1));
        });
        Expect.holds("itself, too, also if it SETS it", () -> {
            Ironwood x = ofEachKind();
            x.lend(2, 1, WHOLE);
            x.call(2, 2, 1, 0);
            x.read(2, BEHIND);
            faultsAt(x, 1, fault(3, 1, WHOLE, 0, 2, 1));
            Ironwood round = ofEachKind();
            round.read(2, BEHIND);
            round.lend(2, 1, WHOLE);
            round.call(2, 2, 1, 0);
            round.branch(GO, 0);
            faultsAt(round, 2, fault(2, 1, WHOLE, 2, -1, -1), fault(3, 1, WHOLE, 1, 2, 2));
        });
        Expect.holds("no STATEMENT ahead of it on that way SETTING it", () -> {
            Ironwood x = ofEachKind();
            x.branch(GO, 2);
            x.read(2, BEHIND);
            x.lend(2, 0, WHOLE);
            x.write(0, WHOLE);
            x.branch(IF, 7);
            x.lend(2, 4, WHOLE);
            x.branch(GO, 1);
            x.read(2, BEHIND);
            faultsAt(x, 3, fault(4, 0, WHOLE, 2, 2, 7));
            x.setTarget(6, 7);
            faultsAt(x, 3, fault(4, 0, WHOLE, 2, 2, 7));
            x.setTarget(4, 1);
            faultsAt(x, 3, fault(4, 0, WHOLE, 2, 2, 1));
        });
        Expect.holds("no STATEMENT ahead of it SETTING it: one that uses and SETS it is the last one", () -> {
            Ironwood x = ofEachKind();
            x.branch(GO, 2);
            x.read(2, BEHIND);
            x.lend(2, 0, WHOLE);
            x.write(0, WHOLE);
            x.call(2, 2, NONE, 1);
            x.branch(IF, 1);
            faultsAt(x, 3, fault(4, 0, WHOLE, 2, 2, 4));
        });
        Expect.holds("that of the FAULT is one ahead, if it is not the last: round and round to itself", () -> {
            Ironwood x = ofEachKind();
            x.lend(6, 0, WHOLE);
            x.move(2, 6, WHOLE);
            x.branch(IF, 4);
            x.read(6, WHOLE);
            x.write(0, WHOLE);
            x.branch(IF, 3);
            x.read(2, BEHIND);
            faultsAt(x, 4, fault(4, 0, WHOLE, 0, 2, 6));
            Ironwood first = ofEachKind();
            first.lend(6, 0, WHOLE);
            first.write(0, WHOLE);
            first.branch(IF, 1);
            first.read(6, BEHIND);
            faultsAt(first, 1, fault(4, 0, WHOLE, 0, 6, 3));
        });
        Expect.holds("the NEXT is one to which one comes by the STATEMENT 0", () -> {
            Ironwood x = ofEachKind();
            x.branch(IF, 3);
            x.read(2, BEHIND);
            x.finish(NONE);
            x.lend(2, 0, WHOLE);
            x.write(0, WHOLE);
            x.branch(GO, 0);
            faultsAt(x, 4, fault(4, 0, WHOLE, 3, 2, 1));
        });
        Expect.holds("the NEXT is the last one of 40, or the first one", () -> {
            Ironwood x = ofEachKind();
            x.lend(2, 0, WHOLE);
            x.write(0, WHOLE);
            while (x.statements() < 39) {
                x.read(4, WHOLE);
            }
            x.read(2, BEHIND);
            faultsAt(x, 1, fault(4, 0, WHOLE, 0, 2, 39));
            Ironwood y = ofEachKind();
            y.read(2, BEHIND);
            y.branch(IF, 39);
            y.lend(2, 0, WHOLE);
            while (y.statements() < 38) {
                y.read(4, WHOLE);
            }
            y.write(0, WHOLE);
            y.branch(GO, 0);
            faultsAt(y, 38, fault(4, 0, WHOLE, 2, 2, 0));
        });
    }

    private static void regions() {
        Expect.holds("Promise 22: made by STATEMENTS to which one can come", () -> {
            Ironwood x = ofEachKind();
            Expect.same("loans() without STATEMENTS", x.loans(), 0);
            x.lend(2, 0, WHOLE);
            x.relend(6, 2);
            x.branch(GO, 4);
            x.lend(3, 1, WHOLE);
            Expect.same("loans()", x.loans(), 2);
            x.lend(3, 1, WHOLE);
            Expect.same("loans() with one more", x.loans(), 3);
            x.setTarget(2, 3);
            Expect.same("loans() with all", x.loans(), 4);
            x.undo();
            Expect.same("loans() behind undo()", x.loans(), 3);
        });
        Expect.holds("Promise 20: no, if there is none, or one cannot come there", () -> {
            Ironwood x = some();
            for (int loan : new int[] {-1, 2, 16, 39, 40, 63, 64, 65, 128, Integer.MIN_VALUE, Integer.MAX_VALUE}) {
                Expect.no("canHold(11, 2, " + loan + ")", x.canHold(11, 2, loan));
                Expect.no("isLive(" + loan + ", 11)", x.isLive(loan, 11));
                Expect.same("region(" + loan + ")", x.region(loan), -1);
            }
            Expect.yes("canHold(11, 2, 0)", x.canHold(11, 2, 0));
            Expect.yes("isLive(0, 11)", x.isLive(0, 11));
            Expect.no("canHold() where one cannot come", x.canHold(15, 6, 14));
            Expect.same("holds() where one cannot come", x.holds(15, 6), 0);
            Expect.same("awaited() where one cannot come", x.awaited(15), 0);
            canBeNothing(x, 15);
        });
        Expect.holds("Promise 23: whether there is such a LOAN, and it is LIVE there", () -> {
            Ironwood x = ofEachKind();
            x.lend(2, 0, WHOLE);
            x.read(2, BEHIND);
            x.finish(NONE);
            x.read(2, BEHIND);
            Expect.no("isLive(0, 0)", x.isLive(0, 0));
            Expect.yes("isLive(0, 1)", x.isLive(0, 1));
            Expect.no("isLive(0, 2)", x.isLive(0, 2));
            Expect.no("isLive() where one cannot come", x.isLive(0, 3));
            Expect.no("isLive() of a READ", x.isLive(1, 1));
        });
        Expect.holds("Promise 24: -1 if there is none, or one cannot come to its STATEMENT", () -> {
            Ironwood x = some();
            Expect.same("region() of one to which one cannot come", x.region(14), -1);
            for (int number : new int[] {2, 3, 4, 5, 8, 13, 15}) {
                Expect.same("region(" + number + "), which is no LOAN", x.region(number), -1);
            }
            Ironwood y = ofEachKind();
            y.lend(2, 0, WHOLE);
            Expect.same("region() of a LOAN that is LIVE nowhere", y.region(0), 0);
            y.undo();
            Expect.same("region() of a LOAN that is taken away", y.region(0), -1);
            Expect.same("region() of a new one", new Ironwood().region(0), -1);
        });
    }

    private static void canBeNothing(Ironwood x, int statement) {
        for (int v = 0; v < x.variables(); v++) {
            Expect.same("canBe() where one cannot come", x.canBe(statement, v, WHOLE), 0);
        }
        Expect.same("canBe() of a FIELD where one cannot come", x.canBe(statement, 1, 2), 0);
    }

    private static void asks() {
        Expect.holds("Promise 12: Returns the one before", () -> {
            Ironwood x = new Ironwood();
            x.branch(IF, 40);
            x.branch(GO, 0);
            Expect.same("setTarget(0, 0)", x.setTarget(0, 0), 40);
            Expect.same("setTarget(0, 0), the same again", x.setTarget(0, 0), 0);
            Expect.same("setTarget(0, 1)", x.setTarget(0, 1), 0);
            Expect.same("setTarget(1, 39)", x.setTarget(1, 39), 0);
            Expect.same("setTarget(0, 40)", x.setTarget(0, 40), 1);
            Expect.same("setTarget(1, 1)", x.setTarget(1, 1), 39);
        });
        Expect.holds("Promise 16: its code, 0 to 9", () -> {
            Ironwood x = ofEachKind();
            x.write(0, WHOLE);
            x.move(0, 4, WHOLE);
            x.lend(2, 0, WHOLE);
            x.relend(6, 2);
            x.read(0, WHOLE);
            x.drop(0);
            x.call(0, NONE, NONE, 0);
            x.branch(IF, 0);
            x.branch(GO, 0);
            x.finish(NONE);
            for (int code = 0; code <= 9; code++) {
                Expect.same("codeOf()", x.codeOf(code), code);
            }
        });
        Expect.holds("Promise 18: the sum of all that any of these can be, each once", () -> {
            Ironwood x = new Ironwood();
            x.variable(OWNED, true);
            x.variable(OWNED, true);
            x.branch(IF, 2);
            x.drop(0);
            x.branch(IF, 4);
            x.move(1, 0, WHOLE);
            x.finish(NONE);
            for (int place = -1; place <= 2; place++) {
                Expect.same("canBe() of all three", x.canBe(4, 0, place), UNMADE + MADE + GONE);
            }
        });
        Expect.holds("Promises 25, 27 and 28: how many, none of them, one, or all", () -> {
            Ironwood x = ofKinds(8, false);
            x.branch(IF, 1);
            Expect.same("faults()", x.faults(), 0);
            Expect.same("faultsAt(0)", x.faultsAt(0), 0);
            for (int code = 1; code <= 6; code++) {
                Expect.same("faultsOf(" + code + ")", x.faultsOf(code), 0);
            }
            x.call(0, 1, 5, 0);
            Expect.same("faults()", x.faults(), 2);
            Expect.same("faultsAt(1)", x.faultsAt(1), 2);
            Expect.same("faultsOf(1)", x.faultsOf(1), 2);
            Expect.same("faultsOf(2)", x.faultsOf(2), 0);
            x.undo();
            Expect.same("faults() behind undo()", x.faults(), 0);
            Expect.same("faultsOf(1) behind undo()", x.faultsOf(1), 0);
            x.read(4, WHOLE);
            Expect.same("faultsOf(1) of one less", x.faultsOf(1), 1);
            Expect.same("faultsAt(1) of one less", x.faultsAt(1), 1);
        });
        Expect.holds("Promise 28: each code", () -> {
            Ironwood x = some();
            int[] due = {1, 2, 1, 1, 1, 1};
            int sum = 0;
            for (int code = 1; code <= 6; code++) {
                Expect.same("faultsOf(" + code + ")", x.faultsOf(code), due[code - 1]);
                sum += due[code - 1];
            }
            Expect.same("faults()", x.faults(), sum);
        });
    }

    private static void without() {
        Expect.holds("Promise 29: one that does nothing, from which one goes to the next one (also of IF)", () -> {
            Ironwood x = ofKinds(8, false);
            x.branch(IF, 2);
            x.finish(NONE);
            x.read(0, WHOLE);
            Expect.same("without() of the IF", x.without(0), 0);
            Expect.same("without() of the END", x.without(1), 1);
            Expect.same("without() of the READ", x.without(2), 0);
        });
        Expect.holds("Promise 29: also of GO and END", () -> {
            Ironwood x = ofKinds(8, false);
            x.branch(GO, 3);
            x.read(0, WHOLE);
            x.read(4, WHOLE);
            x.finish(NONE);
            x.read(1, WHOLE);
            x.read(5, WHOLE);
            Expect.same("faults()", x.faults(), 0);
            Expect.same("without() of the GO", x.without(0), 2);
            Expect.same("without() of the END", x.without(3), 2);
            Expect.same("without() of one to which one cannot come", x.without(1), 0);
        });
        Expect.holds("Promise 29: the last one, whose next one is the end", () -> {
            Ironwood x = ofKinds(8, false);
            x.read(0, WHOLE);
            x.branch(GO, 0);
            Expect.same("without(1)", x.without(1), 1);
            Expect.same("without(0)", x.without(0), 0);
            Ironwood y = ofKinds(8, false);
            while (y.statements() < 39) {
                y.read(0, WHOLE);
            }
            y.finish(0);
            Expect.same("faults()", y.faults(), 40);
            Expect.same("without(39)", y.without(39), 39);
            Expect.same("without(0)", y.without(0), 39);
        });
        Expect.holds("Promise 29: it makes no LOAN, and SETS nothing", () -> {
            Ironwood x = ofEachKind();
            x.lend(2, 0, WHOLE);
            x.lend(2, 1, WHOLE);
            x.write(0, WHOLE);
            x.write(1, WHOLE);
            x.read(2, BEHIND);
            Expect.same("faults()", x.faults(), 1);
            Expect.same("without() of the first LEND", x.without(0), 1);
            Expect.same("without() of the second LEND", x.without(1), 1);
            Expect.same("without() of the READ", x.without(4), 0);
            Expect.same("without() of the WRITE that has none", x.without(2), 1);
            Expect.same("without() of the WRITE that has one", x.without(3), 0);
            Expect.same("loans() behind it", x.loans(), 2);
        });
        Expect.holds("Promise 29: it alone: all others do what they do, the first one, too", () -> {
            Ironwood x = ofEachKind();
            x.move(5, 1, WHOLE);
            x.read(1, WHOLE);
            x.read(1, WHOLE);
            x.read(0, WHOLE);
            int[] due = {0, 1, 1, 2};
            for (int statement = 0; statement < 4; statement++) {
                Expect.same("without(" + statement + ")", x.without(statement), due[statement]);
            }
            Expect.same("culprit()", x.culprit(), 0);
            Ironwood y = ofEachKind();
            y.variable(PLAIN, false);
            y.move(5, 1, WHOLE);
            y.read(8, WHOLE);
            y.read(1, WHOLE);
            y.read(1, WHOLE);
            Expect.same("culprit() of a MOVE with two FAULTS behind it, and of one more", y.culprit(), 0);
        });
        Expect.holds("Promise 29: it SETS nothing: neither the first variable nor another one", () -> {
            Ironwood x = new Ironwood();
            x.variable(SHARED, true);
            x.variable(PLAIN, true);
            x.lend(0, 1, WHOLE);
            x.branch(IF, 2);
            x.write(1, WHOLE);
            x.read(0, BEHIND);
            Expect.same("faults()", x.faults(), 1);
            Expect.same("without() of the IF", x.without(1), 1);
            Expect.same("without() of the READ", x.without(3), 0);
        });
        Expect.holds("Promise 29: nothing is changed", () -> {
            Ironwood x = some();
            long before = x.digest();
            for (int statement = 0; statement < 16; statement++) {
                x.without(statement);
                x.copied(statement);
                Expect.same("digest() behind without() and copied()", x.digest(), before);
            }
            x.culprit();
            x.density();
            Expect.same("digest() behind culprit() and density()", x.digest(), before);
        });
    }

    private static void copied() {
        Expect.holds("Promise 30: if each MOVE among its ACCESSES was a READ", () -> {
            Ironwood x = ofEachKind();
            x.call(0, 1, 3, 0);
            x.read(1, WHOLE);
            x.read(3, WHOLE);
            Expect.same("faults()", x.faults(), 2);
            Expect.same("copied() of both", x.copied(0), 0);
            Ironwood move = ofEachKind();
            move.move(5, 1, 2);
            move.read(1, 2);
            Expect.same("copied() of a FIELD", move.copied(0), 0);
            Ironwood end = ofEachKind();
            end.relend(7, 3);
            end.relend(3, 7);
            end.finish(3);
            Expect.same("faults() of an END", end.faults(), 1);
            Expect.same("copied() of an END", end.copied(2), 0);
        });
        Expect.holds("Promise 30: a READ has FAULTS, too: 1 and 2 stay, and 3 is 5 against one ALONE", () -> {
            Ironwood x = ofKinds(8, false);
            x.move(5, 1, WHOLE);
            Expect.same("copied() of what is UNMADE", x.copied(0), 1);
            Ironwood alone = ofEachKind();
            alone.lend(3, 1, WHOLE);
            alone.move(5, 1, WHOLE);
            alone.read(3, BEHIND);
            Expect.same("faults() against one ALONE", alone.faults(), 1);
            Expect.same("copied() against one ALONE", alone.copied(1), 1);
            Ironwood shared = ofEachKind();
            shared.lend(2, 1, WHOLE);
            shared.move(5, 1, WHOLE);
            shared.read(2, BEHIND);
            Expect.same("faults() against a SHARED one", shared.faults(), 1);
            Expect.same("copied() against a SHARED one", shared.copied(1), 0);
        });
        Expect.holds("Promise 30: what it USES, and what it SETS holds, stays", () -> {
            Ironwood x = ofEachKind();
            x.lend(3, 0, WHOLE);
            x.write(0, WHOLE);
            x.move(7, 3, WHOLE);
            x.write(0, WHOLE);
            x.finish(7);
            Expect.same("faults()", x.faults(), 3);
            Expect.same("copied()", x.copied(2), 3);
        });
        Expect.holds("Promise 30: what has no MOVE stays as it is", () -> {
            Ironwood x = some();
            int faults = x.faults();
            for (int statement = 0; statement < 16; statement++) {
                Expect.same("copied(" + statement + ")", x.copied(statement), statement == 5 ? faults - 3 : faults);
            }
            Ironwood y = ofEachKind();
            y.lend(2, 0, WHOLE);
            y.finish(2);
            Expect.same("copied() of an END of a LOAN", y.copied(1), 1);
        });
    }

    private static void culprit() {
        Expect.holds("Promise 31: -1 if there is none", () -> {
            Expect.same("culprit() of a new one", new Ironwood().culprit(), -1);
            Expect.same("culprit() without STATEMENTS", ofEachKind().culprit(), -1);
            Ironwood x = ofEachKind();
            x.drop(0);
            x.finish(NONE);
            Expect.same("culprit() without FAULTS", x.culprit(), -1);
        });
        Expect.holds("Promise 31: if these are fewer than now", () -> {
            Ironwood x = ofKinds(8, false);
            x.branch(IF, 0);
            x.branch(GO, 3);
            x.finish(NONE);
            Expect.same("culprit() where there would be as many", x.culprit(), -1);
            Ironwood more = ofKinds(8, false);
            more.branch(GO, 2);
            more.read(0, WHOLE);
            more.finish(NONE);
            Expect.same("culprit() where there would be more", more.culprit(), -1);
            Ironwood one = ofKinds(8, false);
            one.read(0, WHOLE);
            Expect.same("culprit() of one alone", one.culprit(), 0);
        });
        Expect.holds("Promise 31: the fewest; of several the smallest number", () -> {
            Ironwood x = ofKinds(8, false);
            x.read(0, WHOLE);
            x.read(4, WHOLE);
            Expect.same("culprit() of two that are alike", x.culprit(), 0);
            x.call(2, 1, 5, 0);
            Expect.same("culprit() of a better one behind them", x.culprit(), 2);
            x.call(2, 3, 7, 0);
            Expect.same("culprit() of one that is as good behind it", x.culprit(), 2);
        });
        Expect.holds("Promise 31: the last one of 40", () -> {
            Ironwood x = ofEachKind();
            while (x.statements() < 39) {
                x.read(0, WHOLE);
            }
            x.variable(PLAIN, false);
            x.read(8, WHOLE);
            Expect.same("culprit()", x.culprit(), 39);
        });
    }

    private static void density() {
        Expect.holds("Promise 32: 0 without any", () -> {
            Expect.same("density() of a new one", new Ironwood().density(), 0.0);
            Expect.same("density() without STATEMENTS", ofEachKind().density(), 0.0);
            Ironwood x = ofKinds(8, false);
            x.read(0, WHOLE);
            x.undo();
            Expect.same("density() behind undo()", x.density(), 0.0);
        });
        Expect.holds("Promise 32: in the mean, not cut", () -> {
            Ironwood x = ofKinds(8, false);
            x.read(0, WHOLE);
            Expect.same("density() of one", x.density(), 1.0);
            x.call(2, 1, 5, 0);
            Expect.same("density() of three halves", x.density(), 1.5);
            x.write(0, WHOLE);
            x.write(0, WHOLE);
            x.write(0, WHOLE);
            x.write(0, WHOLE);
            x.write(0, WHOLE);
            Expect.same("density() of three sevenths", x.density(), 3.0 / 7.0);
        });
        Expect.holds("Promise 32: for each STATEMENT to which one can come", () -> {
            Ironwood x = ofKinds(8, false);
            x.read(0, WHOLE);
            x.branch(GO, 4);
            x.read(0, WHOLE);
            x.read(0, WHOLE);
            Expect.same("density()", x.density(), 0.5);
            x.drop(4);
            Expect.same("density() of a third", x.density(), 1.0 / 3.0);
        });
    }

    private static void digest() {
        Expect.holds("Promise 33: a number d starts with 58057, and wraps around as a 64-bit integer", () -> {
            Expect.same("digest() of a new one", new Ironwood().digest(), digestOf(new Ironwood()));
            Expect.same("digest() without STATEMENTS", ofEachKind().digest(), digestOf(ofEachKind()));
            Expect.same("digest() of some", some().digest(), digestOf(some()));
            Ironwood x = ofKinds(3, false);
            int negative = 0;
            for (int number = 0; number < 14; number++) {
                x.call(1, number % 3, NONE, 1);
                long digest = x.digest();
                negative += digest < 0 ? 1 : 0;
                Ironwood twin = ofKinds(3, false);
                for (int k = 0; k <= number; k++) {
                    twin.call(1, k % 3, NONE, 1);
                }
                Expect.same("digest() of " + number + " CALLS", digest, digestOf(twin));
            }
            Expect.yes("some are negative, and some are not", negative > 0 && negative < 14);
        });
    }

    /** The sum as the document tells it, of whole numbers without a bound, cut at last. */
    private static long digestOf(Ironwood x) {
        List<Integer> numbers = new ArrayList<>(List.of(x.variables(), x.statements(), x.loans(), x.faults()));
        for (int s = 0; s < numbers.get(1); s++) {
            numbers.addAll(List.of(x.codeOf(s), x.isReached(s) ? 1 : 0, x.awaited(s), x.region(s)));
            for (int v = 0; v < numbers.get(0); v++) {
                numbers.addAll(List.of(x.canBe(s, v, WHOLE), x.holds(s, v)));
            }
        }
        for (int fault = 0; fault < numbers.get(3); fault++) {
            for (int what = 0; what <= 6; what++) {
                numbers.add(x.ofFault(fault, what));
            }
        }
        for (int code = 1; code <= 6; code++) {
            numbers.add(x.faultsOf(code));
        }
        BigInteger sum = BigInteger.valueOf(58057);
        for (int number : numbers) {
            sum = sum.multiply(BigInteger.valueOf(31)).add(BigInteger.valueOf(number));
        }
        return sum.longValue();
    }
}
