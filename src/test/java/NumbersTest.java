/** "VARIABLES. At most 12, numbered from 0": which of them has which number changes no answer but the numbers told. */
public final class NumbersTest extends Samples {
    private static final int VARIABLES = 9;
    private static final int STATEMENTS = 19;

    /** The variable v of the story has the number (v + shift) % VARIABLES. */
    private final int shift;
    private final Ironwood x = new Ironwood();

    private NumbersTest(int shift) {
        this.shift = shift;
        for (int number = 0; number < VARIABLES; number++) {
            int v = (number - shift + VARIABLES) % VARIABLES;
            x.variable(v % 4, v < 4 || v == 8);
        }
        tell();
    }

    private int at(int variable) {
        return (variable + shift) % VARIABLES;
    }

    private void tell() {
        x.lend(at(2), at(1), WHOLE);
        x.lend(at(3), at(0), WHOLE);
        x.relend(at(7), at(3));
        x.call(at(6), at(2), at(7), 1);
        x.move(at(5), at(1), 1);
        x.read(at(0), WHOLE);
        x.branch(IF, 10);
        x.call(at(7), at(4), at(3), 2);
        x.drop(at(5));
        x.branch(GO, 12);
        x.write(at(3), BEHIND);
        x.read(at(7), BEHIND);
        x.read(at(6), BEHIND);
        x.read(at(1), WHOLE);
        x.branch(IF, 2);
        x.move(at(2), at(6), WHOLE);
        x.write(at(8), WHOLE);
        x.call(at(8), at(4), at(8), 3);
        x.finish(at(2));
    }

    public static void main(String[] args) {
        for (int shift = 1; shift < VARIABLES; shift++) {
            int by = shift;
            Expect.holds("numbered from 0: by " + by + " later", () -> {
                for (int statement = 0; statement < STATEMENTS; statement++) {
                    aheadOf(new NumbersTest(0), new NumbersTest(by), statement);
                }
                whatWouldBe(new NumbersTest(0), new NumbersTest(by));
                faults(new NumbersTest(0), new NumbersTest(by));
            });
        }
        Expect.end("NumbersTest");
    }

    private static void same(String call, long got, long due) {
        Expect.same(call + ", as with other numbers", got, due);
    }

    private static void aheadOf(NumbersTest a, NumbersTest b, int s) {
        int awaited = 0;
        for (int v = 0; v < VARIABLES; v++) {
            for (int place = -1; place <= (v % 4 == OWNED ? 2 : -1); place++) {
                same("canBe(" + s + ", " + v + ", " + place + ")",
                        b.x.canBe(s, b.at(v), place), a.x.canBe(s, v, place));
            }
            same("holds(" + s + ", " + v + ")", b.x.holds(s, b.at(v)), a.x.holds(s, v));
            for (int loan = 0; loan <= 3; loan++) {
                same("canHold(" + s + ", " + v + ", " + loan + ")",
                        b.x.canHold(s, b.at(v), loan) ? 1 : 0, a.x.canHold(s, v, loan) ? 1 : 0);
            }
            awaited |= (a.x.awaited(s) >> v & 1) << b.at(v);
        }
        same("awaited(" + s + ")", b.x.awaited(s), awaited);
        for (int loan = 0; loan <= 3; loan++) {
            same("isLive(" + loan + ", " + s + ")", b.x.isLive(loan, s) ? 1 : 0, a.x.isLive(loan, s) ? 1 : 0);
        }
        same("isReached(" + s + ")", b.x.isReached(s) ? 1 : 0, a.x.isReached(s) ? 1 : 0);
        same("region(" + s + ")", b.x.region(s), a.x.region(s));
    }

    private static void whatWouldBe(NumbersTest a, NumbersTest b) {
        for (int s = 0; s < STATEMENTS; s++) {
            same("faultsAt(" + s + ")", b.x.faultsAt(s), a.x.faultsAt(s));
            same("without(" + s + ")", b.x.without(s), a.x.without(s));
            same("copied(" + s + ")", b.x.copied(s), a.x.copied(s));
        }
        same("culprit()", b.x.culprit(), a.x.culprit());
        same("loans()", b.x.loans(), a.x.loans());
        Expect.same("density()", b.x.density(), a.x.density());
    }

    private static void faults(NumbersTest a, NumbersTest b) {
        same("faults()", b.x.faults(), a.x.faults());
        for (int fault = 0; fault < a.x.faults(); fault++) {
            int variable = a.x.ofFault(fault, 2);
            same("the variable of the FAULT " + fault, b.x.ofFault(fault, 2), b.at(variable));
            for (int what : new int[] {0, 1, 3, 4}) {
                same("ofFault(" + fault + ", " + what + ")", b.x.ofFault(fault, what), a.x.ofFault(fault, what));
            }
            same("the HOLDER of the FAULT " + fault, b.x.ofFault(fault, 5), b.holderDue(fault));
            int holder = a.x.ofFault(fault, 5);
            if (holder >= 0 && b.at(holder) == b.x.ofFault(fault, 5)) {
                same("the NEXT of the FAULT " + fault, b.x.ofFault(fault, 6), a.x.ofFault(fault, 6));
            }
        }
    }

    /** The smallest variable that can hold that LOAN and is AWAITED. */
    private int holderDue(int fault) {
        int code = x.ofFault(fault, 1);
        int statement = x.ofFault(fault, 0);
        for (int v = 0; v < VARIABLES && code >= 3 && code <= 5; v++) {
            if ((x.awaited(statement) >> v & 1) != 0 && x.canHold(statement, v, x.ofFault(fault, 4))) {
                return v;
            }
        }
        return -1;
    }
}
