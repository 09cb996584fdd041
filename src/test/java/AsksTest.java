import java.math.BigInteger;
import java.util.ArrayList;
import java.util.List;

/** Each "Returns" row that names an edge: none, the first, the smallest, all, not cut, and wrapped around. */
public final class AsksTest extends Samples {
    private AsksTest() {
    }

    public static void main(String[] args) {
        regions();
        asks();
        asksOfFaults();
        without();
        withoutLoan();
        withoutAlone();
        copied();
        culprit();
        density();
        digest();
        Expect.end("AsksTest");
    }

    private static void regions() {
        Expect.holds("Promise 22: made by STATEMENTS to which one can come", () -> {
            Ironwood x = ofEachKind();
            Expect.same("loans() without STATEMENTS", x.loans(), 0);
            x.lend(2, 0, WHOLE);
            x.relend(6, 2);
            x.branch(GO, 4);
            x.lend(3, 1, WHOLE);
            Expect.same("loans()", x.loans(), 2);
            x.lend(3, 1, WHOLE);
            Expect.same("loans() with one more", x.loans(), 3);
            x.setTarget(2, 3);
            Expect.same("loans() with all", x.loans(), 4);
            x.undo();
            Expect.same("loans() behind undo()", x.loans(), 3);
        });
        Expect.holds("Promise 20: no, if there is none, or one cannot come there", () -> {
            Ironwood x = some();
            for (int loan : new int[] {-1, 2, 16, 39, 40, 63, 64, 65, 128, Integer.MIN_VALUE, Integer.MAX_VALUE}) {
                Expect.no("canHold(11, 2, " + loan + ")", x.canHold(11, 2, loan));
                Expect.no("isLive(" + loan + ", 11)", x.isLive(loan, 11));
                Expect.same("region(" + loan + ")", x.region(loan), -1);
            }
            Expect.yes("canHold(11, 2, 0)", x.canHold(11, 2, 0));
            Expect.yes("isLive(0, 11)", x.isLive(0, 11));
            Expect.no("canHold() where one cannot come", x.canHold(15, 6, 14));
            Expect.same("holds() where one cannot come", x.holds(15, 6), 0);
            Expect.same("awaited() where one cannot come", x.awaited(15), 0);
            canBeNothing(x, 15);
        });
        Expect.holds("Promise 23: whether there is such a LOAN, and it is LIVE there", () -> {
            Ironwood x = ofEachKind();
            x.lend(2, 0, WHOLE);
            x.read(2, BEHIND);
            x.finish(NONE);
            x.read(2, BEHIND);
            Expect.no("isLive(0, 0)", x.isLive(0, 0));
            Expect.yes("isLive(0, 1)", x.isLive(0, 1));
            Expect.no("isLive(0, 2)", x.isLive(0, 2));
            Expect.no("isLive() where one cannot come", x.isLive(0, 3));
            Expect.no("isLive() of a READ", x.isLive(1, 1));
        });
        Expect.holds("Promise 24: -1 if there is none, or one cannot come to its STATEMENT", () -> {
            Ironwood x = some();
            Expect.same("region() of one to which one cannot come", x.region(14), -1);
            for (int number : new int[] {2, 3, 4, 5, 8, 13, 15}) {
                Expect.same("region(" + number + "), which is no LOAN", x.region(number), -1);
            }
            Ironwood y = ofEachKind();
            y.lend(2, 0, WHOLE);
            Expect.same("region() of a LOAN that is LIVE nowhere", y.region(0), 0);
            y.undo();
            Expect.same("region() of a LOAN that is taken away", y.region(0), -1);
            Expect.same("region() of a new one", new Ironwood().region(0), -1);
        });
    }

    private static void canBeNothing(Ironwood x, int statement) {
        for (int v = 0; v < x.variables(); v++) {
            Expect.same("canBe() where one cannot come", x.canBe(statement, v, WHOLE), 0);
        }
        Expect.same("canBe() of a FIELD where one cannot come", x.canBe(statement, 1, 2), 0);
    }

    private static void asks() {
        Expect.holds("Promise 12: Returns the one before", () -> {
            Ironwood x = new Ironwood();
            x.branch(IF, 40);
            x.branch(GO, 0);
            Expect.same("setTarget(0, 0)", x.setTarget(0, 0), 40);
            Expect.same("setTarget(0, 0), the same again", x.setTarget(0, 0), 0);
            Expect.same("setTarget(0, 1)", x.setTarget(0, 1), 0);
            Expect.same("setTarget(1, 39)", x.setTarget(1, 39), 0);
            Expect.same("setTarget(0, 40)", x.setTarget(0, 40), 1);
            Expect.same("setTarget(1, 1)", x.setTarget(1, 1), 39);
        });
        Expect.holds("Promise 16: its code, 0 to 9", () -> {
            Ironwood x = ofEachKind();
            x.write(0, WHOLE);
            x.move(0, 4, WHOLE);
            x.lend(2, 0, WHOLE);
            x.relend(6, 2);
            x.read(0, WHOLE);
            x.drop(0);
            x.call(0, NONE, NONE, 0);
            x.branch(IF, 0);
            x.branch(GO, 0);
            x.finish(NONE);
            for (int code = 0; code <= 9; code++) {
                Expect.same("codeOf()", x.codeOf(code), code);
            }
        });
        Expect.holds("Promise 18: the sum of all that any of these can be, each once", () -> {
            Ironwood x = new Ironwood();
            x.variable(OWNED, true);
            x.variable(OWNED, true);
            x.branch(IF, 2);
            x.drop(0);
            x.branch(IF, 4);
            x.move(1, 0, WHOLE);
            x.finish(NONE);
            for (int place = -1; place <= 2; place++) {
                Expect.same("canBe() of all three", x.canBe(4, 0, place), UNMADE + MADE + GONE);
            }
        });
    }

    private static void asksOfFaults() {
        Expect.holds("Promises 25, 27 and 28: how many, none of them, one, or all", () -> {
            Ironwood x = ofKinds(8, false);
            x.branch(IF, 1);
            Expect.same("faults()", x.faults(), 0);
            Expect.same("faultsAt(0)", x.faultsAt(0), 0);
            for (int code = 1; code <= 6; code++) {
                Expect.same("faultsOf(" + code + ")", x.faultsOf(code), 0);
            }
            x.call(0, 1, 5, 0);
            Expect.same("faults()", x.faults(), 2);
            Expect.same("faultsAt(1)", x.faultsAt(1), 2);
            Expect.same("faultsOf(1)", x.faultsOf(1), 2);
            Expect.same("faultsOf(2)", x.faultsOf(2), 0);
            x.undo();
            Expect.same("faults() behind undo()", x.faults(), 0);
            Expect.same("faultsOf(1) behind undo()", x.faultsOf(1), 0);
            x.read(4, WHOLE);
            Expect.same("faultsOf(1) of one less", x.faultsOf(1), 1);
            Expect.same("faultsAt(1) of one less", x.faultsAt(1), 1);
        });
        Expect.holds("Promise 28: each code", () -> {
            Ironwood x = some();
            int[] due = {1, 2, 1, 1, 1, 1};
            int sum = 0;
            for (int code = 1; code <= 6; code++) {
                Expect.same("faultsOf(" + code + ")", x.faultsOf(code), due[code - 1]);
                sum += due[code - 1];
            }
            Expect.same("faults()", x.faults(), sum);
        });
    }

    private static void without() {
        Expect.holds("Promise 29: one that does nothing, from which one goes to the next one (also of IF)", () -> {
            Ironwood x = ofKinds(8, false);
            x.branch(IF, 2);
            x.finish(NONE);
            x.read(0, WHOLE);
            Expect.same("without() of the IF", x.without(0), 0);
            Expect.same("without() of the END", x.without(1), 1);
            Expect.same("without() of the READ", x.without(2), 0);
        });
        Expect.holds("Promise 29: also of GO and END", () -> {
            Ironwood x = ofKinds(8, false);
            x.branch(GO, 3);
            x.read(0, WHOLE);
            x.read(4, WHOLE);
            x.finish(NONE);
            x.read(1, WHOLE);
            x.read(5, WHOLE);
            Expect.same("faults()", x.faults(), 0);
            Expect.same("without() of the GO", x.without(0), 2);
            Expect.same("without() of the END", x.without(3), 2);
            Expect.same("without() of one to which one cannot come", x.without(1), 0);
        });
        Expect.holds("Promise 29: the last one, whose next one is the end", () -> {
            Ironwood x = ofKinds(8, false);
            x.read(0, WHOLE);
            x.branch(GO, 0);
            Expect.same("without(1)", x.without(1), 1);
            Expect.same("without(0)", x.without(0), 0);
            Ironwood y = ofKinds(8, false);
            while (y.statements() < 39) {
                y.read(0, WHOLE);
            }
            y.finish(0);
            Expect.same("faults()", y.faults(), 40);
            Expect.same("without(39)", y.without(39), 39);
            Expect.same("without(0)", y.without(0), 39);
        });
    }

    private static void withoutLoan() {
        Expect.holds("Promise 29: it makes no LOAN, and SETS nothing", () -> {
            Ironwood x = ofEachKind();
            x.lend(2, 0, WHOLE);
            x.lend(2, 1, WHOLE);
            x.write(0, WHOLE);
            x.write(1, WHOLE);
            x.read(2, BEHIND);
            Expect.same("faults()", x.faults(), 1);
            Expect.same("without() of the first LEND", x.without(0), 1);
            Expect.same("without() of the second LEND", x.without(1), 1);
            Expect.same("without() of the READ", x.without(4), 0);
            Expect.same("without() of the WRITE that has none", x.without(2), 1);
            Expect.same("without() of the WRITE that has one", x.without(3), 0);
            Expect.same("loans() behind it", x.loans(), 2);
        });
    }

    private static void withoutAlone() {
        Expect.holds("Promise 29: it alone: all others do what they do, the first one, too", () -> {
            Ironwood x = ofEachKind();
            x.move(5, 1, WHOLE);
            x.read(1, WHOLE);
            x.read(1, WHOLE);
            x.read(0, WHOLE);
            int[] due = {0, 1, 1, 2};
            for (int statement = 0; statement < 4; statement++) {
                Expect.same("without(" + statement + ")", x.without(statement), due[statement]);
            }
            Expect.same("culprit()", x.culprit(), 0);
            Ironwood y = ofEachKind();
            y.variable(PLAIN, false);
            y.move(5, 1, WHOLE);
            y.read(8, WHOLE);
            y.read(1, WHOLE);
            y.read(1, WHOLE);
            Expect.same("culprit() of a MOVE with two FAULTS behind it, and of one more", y.culprit(), 0);
        });
        Expect.holds("Promise 29: it SETS nothing: neither the first variable nor another one", () -> {
            Ironwood x = new Ironwood();
            x.variable(SHARED, true);
            x.variable(PLAIN, true);
            x.lend(0, 1, WHOLE);
            x.branch(IF, 2);
            x.write(1, WHOLE);
            x.read(0, BEHIND);
            Expect.same("faults()", x.faults(), 1);
            Expect.same("without() of the IF", x.without(1), 1);
            Expect.same("without() of the READ", x.without(3), 0);
        });
        Expect.holds("Promise 29: nothing is changed", () -> {
            Ironwood x = some();
            long before = x.digest();
            for (int statement = 0; statement < 16; statement++) {
                x.without(statement);
                x.copied(statement);
                Expect.same("digest() behind without() and copied()", x.digest(), before);
            }
            x.culprit();
            x.density();
            Expect.same("digest() behind culprit() and density()", x.digest(), before);
        });
    }

    private static void copied() {
        Expect.holds("Promise 30: if each MOVE among its ACCESSES was a READ", () -> {
            Ironwood x = ofEachKind();
            x.call(0, 1, 3, 0);
            x.read(1, WHOLE);
            x.read(3, WHOLE);
            Expect.same("faults()", x.faults(), 2);
            Expect.same("copied() of both", x.copied(0), 0);
            Ironwood move = ofEachKind();
            move.move(5, 1, 2);
            move.read(1, 2);
            Expect.same("copied() of a FIELD", move.copied(0), 0);
            Ironwood end = ofEachKind();
            end.relend(7, 3);
            end.relend(3, 7);
            end.finish(3);
            Expect.same("faults() of an END", end.faults(), 1);
            Expect.same("copied() of an END", end.copied(2), 0);
        });
        Expect.holds("Promise 30: a READ has FAULTS, too: 1 and 2 stay, and 3 is 5 against one ALONE", () -> {
            Ironwood x = ofKinds(8, false);
            x.move(5, 1, WHOLE);
            Expect.same("copied() of what is UNMADE", x.copied(0), 1);
            Ironwood alone = ofEachKind();
            alone.lend(3, 1, WHOLE);
            alone.move(5, 1, WHOLE);
            alone.read(3, BEHIND);
            Expect.same("faults() against one ALONE", alone.faults(), 1);
            Expect.same("copied() against one ALONE", alone.copied(1), 1);
            Ironwood shared = ofEachKind();
            shared.lend(2, 1, WHOLE);
            shared.move(5, 1, WHOLE);
            shared.read(2, BEHIND);
            Expect.same("faults() against a SHARED one", shared.faults(), 1);
            Expect.same("copied() against a SHARED one", shared.copied(1), 0);
        });
        Expect.holds("Promise 30: what it USES, and what it SETS holds, stays", () -> {
            Ironwood x = ofEachKind();
            x.lend(3, 0, WHOLE);
            x.write(0, WHOLE);
            x.move(7, 3, WHOLE);
            x.write(0, WHOLE);
            x.finish(7);
            Expect.same("faults()", x.faults(), 3);
            Expect.same("copied()", x.copied(2), 3);
        });
        Expect.holds("Promise 30: what has no MOVE stays as it is", () -> {
            Ironwood x = some();
            int faults = x.faults();
            for (int statement = 0; statement < 16; statement++) {
                Expect.same("copied(" + statement + ")", x.copied(statement), statement == 5 ? faults - 3 : faults);
            }
            Ironwood y = ofEachKind();
            y.lend(2, 0, WHOLE);
            y.finish(2);
            Expect.same("copied() of an END of a LOAN", y.copied(1), 1);
        });
    }

    private static void culprit() {
        Expect.holds("Promise 31: -1 if there is none", () -> {
            Expect.same("culprit() of a new one", new Ironwood().culprit(), -1);
            Expect.same("culprit() without STATEMENTS", ofEachKind().culprit(), -1);
            Ironwood x = ofEachKind();
            x.drop(0);
            x.finish(NONE);
            Expect.same("culprit() without FAULTS", x.culprit(), -1);
        });
        Expect.holds("Promise 31: if these are fewer than now", () -> {
            Ironwood x = ofKinds(8, false);
            x.branch(IF, 0);
            x.branch(GO, 3);
            x.finish(NONE);
            Expect.same("culprit() where there would be as many", x.culprit(), -1);
            Ironwood more = ofKinds(8, false);
            more.branch(GO, 2);
            more.read(0, WHOLE);
            more.finish(NONE);
            Expect.same("culprit() where there would be more", more.culprit(), -1);
            Ironwood one = ofKinds(8, false);
            one.read(0, WHOLE);
            Expect.same("culprit() of one alone", one.culprit(), 0);
        });
        Expect.holds("Promise 31: the fewest; of several the smallest number", () -> {
            Ironwood x = ofKinds(8, false);
            x.read(0, WHOLE);
            x.read(4, WHOLE);
            Expect.same("culprit() of two that are alike", x.culprit(), 0);
            x.call(2, 1, 5, 0);
            Expect.same("culprit() of a better one behind them", x.culprit(), 2);
            x.call(2, 3, 7, 0);
            Expect.same("culprit() of one that is as good behind it", x.culprit(), 2);
        });
        Expect.holds("Promise 31: the last one of 40", () -> {
            Ironwood x = ofEachKind();
            while (x.statements() < 39) {
                x.read(0, WHOLE);
            }
            x.variable(PLAIN, false);
            x.read(8, WHOLE);
            Expect.same("culprit()", x.culprit(), 39);
        });
    }

    private static void density() {
        Expect.holds("Promise 32: 0 without any", () -> {
            Expect.same("density() of a new one", new Ironwood().density(), 0.0);
            Expect.same("density() without STATEMENTS", ofEachKind().density(), 0.0);
            Ironwood x = ofKinds(8, false);
            x.read(0, WHOLE);
            x.undo();
            Expect.same("density() behind undo()", x.density(), 0.0);
        });
        Expect.holds("Promise 32: in the mean, not cut", () -> {
            Ironwood x = ofKinds(8, false);
            x.read(0, WHOLE);
            Expect.same("density() of one", x.density(), 1.0);
            x.call(2, 1, 5, 0);
            Expect.same("density() of three halves", x.density(), 1.5);
            x.write(0, WHOLE);
            x.write(0, WHOLE);
            x.write(0, WHOLE);
            x.write(0, WHOLE);
            x.write(0, WHOLE);
            Expect.same("density() of three sevenths", x.density(), 3.0 / 7.0);
        });
        Expect.holds("Promise 32: for each STATEMENT to which one can come", () -> {
            Ironwood x = ofKinds(8, false);
            x.read(0, WHOLE);
            x.branch(GO, 4);
            x.read(0, WHOLE);
            x.read(0, WHOLE);
            Expect.same("density()", x.density(), 0.5);
            x.drop(4);
            Expect.same("density() of a third", x.density(), 1.0 / 3.0);
        });
    }

    private static void digest() {
        Expect.holds("Promise 33: a number d starts with 58057, and wraps around as a 64-bit integer", () -> {
            Expect.same("digest() of a new one", new Ironwood().digest(), digestOf(new Ironwood()));
            Expect.same("digest() without STATEMENTS", ofEachKind().digest(), digestOf(ofEachKind()));
            Expect.same("digest() of some", some().digest(), digestOf(some()));
            Ironwood x = ofKinds(3, false);
            int negative = 0;
            for (int number = 0; number < 14; number++) {
                x.call(1, number % 3, NONE, 1);
                long digest = x.digest();
                negative += digest < 0 ? 1 : 0;
                Ironwood twin = ofKinds(3, false);
                for (int k = 0; k <= number; k++) {
                    twin.call(1, k % 3, NONE, 1);
                }
                Expect.same("digest() of " + number + " CALLS", digest, digestOf(twin));
            }
            Expect.yes("some are negative, and some are not", negative > 0 && negative < 14);
        });
    }

    /** The sum as the document tells it, of whole numbers without a bound, cut at last. */
    private static long digestOf(Ironwood x) {
        List<Integer> numbers = new ArrayList<>(List.of(x.variables(), x.statements(), x.loans(), x.faults()));
        for (int s = 0; s < numbers.get(1); s++) {
            numbers.addAll(List.of(x.codeOf(s), x.isReached(s) ? 1 : 0, x.awaited(s), x.region(s)));
            for (int v = 0; v < numbers.get(0); v++) {
                numbers.addAll(List.of(x.canBe(s, v, WHOLE), x.holds(s, v)));
            }
        }
        for (int fault = 0; fault < numbers.get(3); fault++) {
            for (int what = 0; what <= 6; what++) {
                numbers.add(x.ofFault(fault, what));
            }
        }
        for (int code = 1; code <= 6; code++) {
            numbers.add(x.faultsOf(code));
        }
        BigInteger sum = BigInteger.valueOf(58057);
        for (int number : numbers) {
            sum = sum.multiply(BigInteger.valueOf(31)).add(BigInteger.valueOf(number));
        }
        return sum.longValue();
    }
}
