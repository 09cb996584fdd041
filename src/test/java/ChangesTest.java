import java.util.function.Supplier;

/** What is told anew, taken away or turned elsewhere: all answers are then as if it had been told so at once. */
public final class ChangesTest extends Samples {
    private static final int FORMS = 20;

    private static final Supplier<Ironwood> BEGUN = ChangesTest::begun;
    private static final Supplier<Ironwood> VARIABLES_OF_SOME = () -> {
        Ironwood x = new Ironwood();
        for (int v = 0; v < 8; v++) {
            x.variable(v % 4, v < 4);
        }
        return x;
    };

    private ChangesTest() {
    }

    public static void main(String[] args) {
        Expect.holds("Promise 13: Takes the last STATEMENT away", ChangesTest::undo);
        Expect.holds("Promise 13: another one may be told in its place", ChangesTest::another);
        Expect.holds("Promise 12: its t from now on", ChangesTest::setTarget);
        Expect.holds("Promise 2: a variable that is told later", ChangesTest::variable);
        Expect.holds("Promises 3 to 11: one STATEMENT more changes what can be ahead of it", ChangesTest::more);
        Expect.end("ChangesTest");
    }

    private static Ironwood asked(Ironwood x) {
        x.digest();
        x.culprit();
        x.copied(0);
        for (int fault = 0; fault < x.faults(); fault++) {
            x.ofFault(fault, 4);
            x.ofFault(fault, 6);
        }
        return x;
    }

    /** A STATEMENT of each code, in the forms that do different things. */
    private static void tell(Ironwood x, int form) {
        switch (form) {
            case 0 -> x.write(1, WHOLE);
            case 1 -> x.write(5, 2);
            case 2 -> x.write(3, BEHIND);
            case 3 -> x.move(5, 1, WHOLE);
            case 4 -> x.move(1, 5, 0);
            case 5 -> x.move(3, 7, WHOLE);
            case 6 -> x.move(0, 4, WHOLE);
            case 7 -> x.lend(3, 1, 1);
            case 8 -> x.lend(2, 0, WHOLE);
            case 9 -> x.relend(7, 3);
            case 10 -> x.relend(6, 2);
            case 11 -> x.read(1, WHOLE);
            case 12 -> x.drop(1);
            case 13 -> x.drop(3);
            case 14 -> x.call(2, 2, 7, 3);
            case 15 -> x.call(1, 5, NONE, 0);
            case 16 -> x.branch(IF, 2);
            case 17 -> x.branch(GO, 0);
            case 18 -> x.finish(3);
            default -> x.finish(NONE);
        }
    }

    private static Ironwood begun() {
        Ironwood x = ofEachKind();
        x.lend(2, 1, 2);
        x.lend(3, 0, WHOLE);
        x.move(6, 2, WHOLE);
        return x;
    }

    private static Ironwood ended(Ironwood x) {
        x.read(1, WHOLE);
        x.read(3, BEHIND);
        x.read(6, BEHIND);
        x.branch(IF, 1);
        x.finish(2);
        return x;
    }

    private static void undo() {
        for (int each = 0; each < FORMS; each++) {
            int form = each;
            Answers.same("undo() of the form " + form, () -> {
                Ironwood x = begun();
                tell(x, form);
                asked(x).undo();
                return x;
            }, BEGUN);
        }
        Answers.same("undo() of all", () -> {
            Ironwood x = asked(some());
            while (x.statements() > 0) {
                x.undo();
            }
            return x;
        }, VARIABLES_OF_SOME);
    }

    private static void another() {
        for (int each = 0; each < FORMS; each++) {
            int form = each;
            Supplier<Ironwood> due = () -> {
                Ironwood x = begun();
                tell(x, form);
                return ended(x);
            };
            for (int other = 0; other < FORMS; other++) {
                int first = other;
                Answers.same("the form " + form + " in place of " + first, () -> {
                    Ironwood x = begun();
                    tell(x, first);
                    asked(ended(x));
                    for (int k = 0; k < 6; k++) {
                        x.undo();
                    }
                    tell(x, form);
                    return ended(x);
                }, due);
            }
        }
    }

    private static void setTarget() {
        for (int each = 0; each <= 40; each++) {
            int target = each;
            Supplier<Ironwood> due = () -> branching(target);
            for (int other : new int[] {0, 1, 3, 5, 7, 8, 40}) {
                Answers.same("setTarget() to " + target + " from " + other, () -> {
                    Ironwood x = asked(branching(other));
                    Expect.same("setTarget()", x.setTarget(4, target), other);
                    return x;
                }, due);
            }
        }
    }

    private static Ironwood branching(int target) {
        Ironwood x = ofEachKind();
        x.lend(2, 1, 2);
        x.read(5, 0);
        x.move(6, 2, WHOLE);
        x.move(1, 5, 0);
        x.branch(IF, target);
        x.drop(4);
        x.write(1, 2);
        x.read(6, BEHIND);
        return x;
    }

    private static void variable() {
        for (int each = 0; each < 8; each++) {
            int kind = each % 4;
            boolean isParameter = each < 4;
            Supplier<Ironwood> due = () -> {
                Ironwood x = ofEachKind();
                x.variable(kind, isParameter);
                return ended(x);
            };
            Answers.same("variable(" + kind + ", " + isParameter + ") told last", () -> {
                Ironwood x = asked(ended(ofEachKind()));
                Expect.same("variable()", x.variable(kind, isParameter), 8);
                return x;
            }, due);
        }
    }

    private static void more() {
        for (int each = 0; each < FORMS; each++) {
            int form = each;
            Supplier<Ironwood> due = () -> {
                Ironwood x = begun();
                tell(x, form);
                return ended(x);
            };
            Answers.same("the form " + form + " told when all ahead is known", () -> {
                Ironwood x = asked(begun());
                tell(x, form);
                return ended(asked(x));
            }, due);
        }
    }
}
